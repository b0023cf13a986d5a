theorem nE_8908_1_6_9586_2 {i j : Nat} (hj : j < 6) : 8908 + 1 * j ≠ 9586 + 2 * i := by omega
theorem nE_8914_7_96_9586_2 {i j : Nat} (hj : j < 96) : 8914 + 7 * j ≠ 9586 + 2 * i := by omega
theorem nE_8915_7_96_9586_2 {i j : Nat} (hj : j < 96) : 8915 + 7 * j ≠ 9586 + 2 * i := by omega
theorem nE_8916_7_96_9586_2 {i j : Nat} (hj : j < 96) : 8916 + 7 * j ≠ 9586 + 2 * i := by omega
theorem nE_8917_7_96_9586_2 {i j : Nat} (hj : j < 96) : 8917 + 7 * j ≠ 9586 + 2 * i := by omega
theorem nE_8918_7_96_9586_2 {i j : Nat} (hj : j < 96) : 8918 + 7 * j ≠ 9586 + 2 * i := by omega
theorem nE_8919_7_96_9586_2 {i j : Nat} (hj : j < 96) : 8919 + 7 * j ≠ 9586 + 2 * i := by omega
theorem nE_8920_7_96_9586_2 {i j : Nat} (hj : j < 96) : 8920 + 7 * j ≠ 9586 + 2 * i := by omega
theorem nE_9586_2_i_9586_2 {i j : Nat} (hj : j < i) : 9586 + 2 * j ≠ 9586 + 2 * i := by omega
theorem nE_9587_2_i_9586_2 {i j : Nat} (hj : j < i) : 9587 + 2 * j ≠ 9586 + 2 * i := by omega
theorem nE_8908_1_6_9587_2 {i j : Nat} (hj : j < 6) : 8908 + 1 * j ≠ 9587 + 2 * i := by omega
theorem nE_8914_7_96_9587_2 {i j : Nat} (hj : j < 96) : 8914 + 7 * j ≠ 9587 + 2 * i := by omega
theorem nE_8915_7_96_9587_2 {i j : Nat} (hj : j < 96) : 8915 + 7 * j ≠ 9587 + 2 * i := by omega
theorem nE_8916_7_96_9587_2 {i j : Nat} (hj : j < 96) : 8916 + 7 * j ≠ 9587 + 2 * i := by omega
theorem nE_8917_7_96_9587_2 {i j : Nat} (hj : j < 96) : 8917 + 7 * j ≠ 9587 + 2 * i := by omega
theorem nE_8918_7_96_9587_2 {i j : Nat} (hj : j < 96) : 8918 + 7 * j ≠ 9587 + 2 * i := by omega
theorem nE_8919_7_96_9587_2 {i j : Nat} (hj : j < 96) : 8919 + 7 * j ≠ 9587 + 2 * i := by omega
theorem nE_8920_7_96_9587_2 {i j : Nat} (hj : j < 96) : 8920 + 7 * j ≠ 9587 + 2 * i := by omega
theorem nE_9586_2_i1_9587_2 {i j : Nat} (hj : j < i + 1) : 9586 + 2 * j ≠ 9587 + 2 * i := by omega
theorem nE_9587_2_i_9587_2 {i j : Nat} (hj : j < i) : 9587 + 2 * j ≠ 9587 + 2 * i := by omega
theorem nE_8908_1_6_8914_7 {i j : Nat} (hj : j < 6) : 8908 + 1 * j ≠ 8914 + 7 * i := by omega
theorem nE_8914_7_i_8914_7 {i j : Nat} (hj : j < i) : 8914 + 7 * j ≠ 8914 + 7 * i := by omega
theorem nE_8915_7_i_8914_7 {i j : Nat} (hj : j < i) : 8915 + 7 * j ≠ 8914 + 7 * i := by omega
theorem nE_8916_7_i_8914_7 {i j : Nat} (hj : j < i) : 8916 + 7 * j ≠ 8914 + 7 * i := by omega
theorem nE_8917_7_i_8914_7 {i j : Nat} (hj : j < i) : 8917 + 7 * j ≠ 8914 + 7 * i := by omega
theorem nE_8918_7_i_8914_7 {i j : Nat} (hj : j < i) : 8918 + 7 * j ≠ 8914 + 7 * i := by omega
theorem nE_8919_7_i_8914_7 {i j : Nat} (hj : j < i) : 8919 + 7 * j ≠ 8914 + 7 * i := by omega
theorem nE_8920_7_i_8914_7 {i j : Nat} (hj : j < i) : 8920 + 7 * j ≠ 8914 + 7 * i := by omega
theorem nE_9586_2_0_8914_7 {i j : Nat} (hj : j < 0) : 9586 + 2 * j ≠ 8914 + 7 * i := by omega
theorem nE_9587_2_0_8914_7 {i j : Nat} (hj : j < 0) : 9587 + 2 * j ≠ 8914 + 7 * i := by omega
theorem nE_8908_1_6_8915_7 {i j : Nat} (hj : j < 6) : 8908 + 1 * j ≠ 8915 + 7 * i := by omega
theorem nE_8914_7_i1_8915_7 {i j : Nat} (hj : j < i + 1) : 8914 + 7 * j ≠ 8915 + 7 * i := by omega
theorem nE_8915_7_i_8915_7 {i j : Nat} (hj : j < i) : 8915 + 7 * j ≠ 8915 + 7 * i := by omega
theorem nE_8916_7_i_8915_7 {i j : Nat} (hj : j < i) : 8916 + 7 * j ≠ 8915 + 7 * i := by omega
theorem nE_8917_7_i_8915_7 {i j : Nat} (hj : j < i) : 8917 + 7 * j ≠ 8915 + 7 * i := by omega
theorem nE_8918_7_i_8915_7 {i j : Nat} (hj : j < i) : 8918 + 7 * j ≠ 8915 + 7 * i := by omega
theorem nE_8919_7_i_8915_7 {i j : Nat} (hj : j < i) : 8919 + 7 * j ≠ 8915 + 7 * i := by omega
theorem nE_8920_7_i_8915_7 {i j : Nat} (hj : j < i) : 8920 + 7 * j ≠ 8915 + 7 * i := by omega
theorem nE_9586_2_0_8915_7 {i j : Nat} (hj : j < 0) : 9586 + 2 * j ≠ 8915 + 7 * i := by omega
theorem nE_9587_2_0_8915_7 {i j : Nat} (hj : j < 0) : 9587 + 2 * j ≠ 8915 + 7 * i := by omega
theorem nE_8908_1_6_8916_7 {i j : Nat} (hj : j < 6) : 8908 + 1 * j ≠ 8916 + 7 * i := by omega
theorem nE_8914_7_i1_8916_7 {i j : Nat} (hj : j < i + 1) : 8914 + 7 * j ≠ 8916 + 7 * i := by omega
theorem nE_8915_7_i1_8916_7 {i j : Nat} (hj : j < i + 1) : 8915 + 7 * j ≠ 8916 + 7 * i := by omega
theorem nE_8916_7_i_8916_7 {i j : Nat} (hj : j < i) : 8916 + 7 * j ≠ 8916 + 7 * i := by omega
theorem nE_8917_7_i_8916_7 {i j : Nat} (hj : j < i) : 8917 + 7 * j ≠ 8916 + 7 * i := by omega
theorem nE_8918_7_i_8916_7 {i j : Nat} (hj : j < i) : 8918 + 7 * j ≠ 8916 + 7 * i := by omega
theorem nE_8919_7_i_8916_7 {i j : Nat} (hj : j < i) : 8919 + 7 * j ≠ 8916 + 7 * i := by omega
theorem nE_8920_7_i_8916_7 {i j : Nat} (hj : j < i) : 8920 + 7 * j ≠ 8916 + 7 * i := by omega
theorem nE_9586_2_0_8916_7 {i j : Nat} (hj : j < 0) : 9586 + 2 * j ≠ 8916 + 7 * i := by omega
theorem nE_9587_2_0_8916_7 {i j : Nat} (hj : j < 0) : 9587 + 2 * j ≠ 8916 + 7 * i := by omega
theorem nE_8908_1_6_8917_7 {i j : Nat} (hj : j < 6) : 8908 + 1 * j ≠ 8917 + 7 * i := by omega
theorem nE_8914_7_i1_8917_7 {i j : Nat} (hj : j < i + 1) : 8914 + 7 * j ≠ 8917 + 7 * i := by omega
theorem nE_8915_7_i1_8917_7 {i j : Nat} (hj : j < i + 1) : 8915 + 7 * j ≠ 8917 + 7 * i := by omega
theorem nE_8916_7_i1_8917_7 {i j : Nat} (hj : j < i + 1) : 8916 + 7 * j ≠ 8917 + 7 * i := by omega
theorem nE_8917_7_i_8917_7 {i j : Nat} (hj : j < i) : 8917 + 7 * j ≠ 8917 + 7 * i := by omega
theorem nE_8918_7_i_8917_7 {i j : Nat} (hj : j < i) : 8918 + 7 * j ≠ 8917 + 7 * i := by omega
theorem nE_8919_7_i_8917_7 {i j : Nat} (hj : j < i) : 8919 + 7 * j ≠ 8917 + 7 * i := by omega
theorem nE_8920_7_i_8917_7 {i j : Nat} (hj : j < i) : 8920 + 7 * j ≠ 8917 + 7 * i := by omega
theorem nE_9586_2_0_8917_7 {i j : Nat} (hj : j < 0) : 9586 + 2 * j ≠ 8917 + 7 * i := by omega
theorem nE_9587_2_0_8917_7 {i j : Nat} (hj : j < 0) : 9587 + 2 * j ≠ 8917 + 7 * i := by omega
theorem nE_8908_1_6_8918_7 {i j : Nat} (hj : j < 6) : 8908 + 1 * j ≠ 8918 + 7 * i := by omega
theorem nE_8914_7_i1_8918_7 {i j : Nat} (hj : j < i + 1) : 8914 + 7 * j ≠ 8918 + 7 * i := by omega
theorem nE_8915_7_i1_8918_7 {i j : Nat} (hj : j < i + 1) : 8915 + 7 * j ≠ 8918 + 7 * i := by omega
theorem nE_8916_7_i1_8918_7 {i j : Nat} (hj : j < i + 1) : 8916 + 7 * j ≠ 8918 + 7 * i := by omega
theorem nE_8917_7_i1_8918_7 {i j : Nat} (hj : j < i + 1) : 8917 + 7 * j ≠ 8918 + 7 * i := by omega
theorem nE_8918_7_i_8918_7 {i j : Nat} (hj : j < i) : 8918 + 7 * j ≠ 8918 + 7 * i := by omega
theorem nE_8919_7_i_8918_7 {i j : Nat} (hj : j < i) : 8919 + 7 * j ≠ 8918 + 7 * i := by omega
theorem nE_8920_7_i_8918_7 {i j : Nat} (hj : j < i) : 8920 + 7 * j ≠ 8918 + 7 * i := by omega
theorem nE_9586_2_0_8918_7 {i j : Nat} (hj : j < 0) : 9586 + 2 * j ≠ 8918 + 7 * i := by omega
theorem nE_9587_2_0_8918_7 {i j : Nat} (hj : j < 0) : 9587 + 2 * j ≠ 8918 + 7 * i := by omega
theorem nE_8908_1_6_8919_7 {i j : Nat} (hj : j < 6) : 8908 + 1 * j ≠ 8919 + 7 * i := by omega
theorem nE_8914_7_i1_8919_7 {i j : Nat} (hj : j < i + 1) : 8914 + 7 * j ≠ 8919 + 7 * i := by omega
theorem nE_8915_7_i1_8919_7 {i j : Nat} (hj : j < i + 1) : 8915 + 7 * j ≠ 8919 + 7 * i := by omega
theorem nE_8916_7_i1_8919_7 {i j : Nat} (hj : j < i + 1) : 8916 + 7 * j ≠ 8919 + 7 * i := by omega
theorem nE_8917_7_i1_8919_7 {i j : Nat} (hj : j < i + 1) : 8917 + 7 * j ≠ 8919 + 7 * i := by omega
theorem nE_8918_7_i1_8919_7 {i j : Nat} (hj : j < i + 1) : 8918 + 7 * j ≠ 8919 + 7 * i := by omega
theorem nE_8919_7_i_8919_7 {i j : Nat} (hj : j < i) : 8919 + 7 * j ≠ 8919 + 7 * i := by omega
theorem nE_8920_7_i_8919_7 {i j : Nat} (hj : j < i) : 8920 + 7 * j ≠ 8919 + 7 * i := by omega
theorem nE_9586_2_0_8919_7 {i j : Nat} (hj : j < 0) : 9586 + 2 * j ≠ 8919 + 7 * i := by omega
theorem nE_9587_2_0_8919_7 {i j : Nat} (hj : j < 0) : 9587 + 2 * j ≠ 8919 + 7 * i := by omega
theorem nE_8908_1_6_8920_7 {i j : Nat} (hj : j < 6) : 8908 + 1 * j ≠ 8920 + 7 * i := by omega
theorem nE_8914_7_i1_8920_7 {i j : Nat} (hj : j < i + 1) : 8914 + 7 * j ≠ 8920 + 7 * i := by omega
theorem nE_8915_7_i1_8920_7 {i j : Nat} (hj : j < i + 1) : 8915 + 7 * j ≠ 8920 + 7 * i := by omega
theorem nE_8916_7_i1_8920_7 {i j : Nat} (hj : j < i + 1) : 8916 + 7 * j ≠ 8920 + 7 * i := by omega
theorem nE_8917_7_i1_8920_7 {i j : Nat} (hj : j < i + 1) : 8917 + 7 * j ≠ 8920 + 7 * i := by omega
theorem nE_8918_7_i1_8920_7 {i j : Nat} (hj : j < i + 1) : 8918 + 7 * j ≠ 8920 + 7 * i := by omega
theorem nE_8919_7_i1_8920_7 {i j : Nat} (hj : j < i + 1) : 8919 + 7 * j ≠ 8920 + 7 * i := by omega
theorem nE_8920_7_i_8920_7 {i j : Nat} (hj : j < i) : 8920 + 7 * j ≠ 8920 + 7 * i := by omega
theorem nE_9586_2_0_8920_7 {i j : Nat} (hj : j < 0) : 9586 + 2 * j ≠ 8920 + 7 * i := by omega
theorem nE_9587_2_0_8920_7 {i j : Nat} (hj : j < 0) : 9587 + 2 * j ≠ 8920 + 7 * i := by omega
theorem nE_8908_1_i_8908_1 {i j : Nat} (hj : j < i) : 8908 + 1 * j ≠ 8908 + 1 * i := by omega
theorem nE_8914_7_0_8908_1 {i j : Nat} (hj : j < 0) : 8914 + 7 * j ≠ 8908 + 1 * i := by omega
theorem nE_8915_7_0_8908_1 {i j : Nat} (hj : j < 0) : 8915 + 7 * j ≠ 8908 + 1 * i := by omega
theorem nE_8916_7_0_8908_1 {i j : Nat} (hj : j < 0) : 8916 + 7 * j ≠ 8908 + 1 * i := by omega
theorem nE_8917_7_0_8908_1 {i j : Nat} (hj : j < 0) : 8917 + 7 * j ≠ 8908 + 1 * i := by omega
theorem nE_8918_7_0_8908_1 {i j : Nat} (hj : j < 0) : 8918 + 7 * j ≠ 8908 + 1 * i := by omega
theorem nE_8919_7_0_8908_1 {i j : Nat} (hj : j < 0) : 8919 + 7 * j ≠ 8908 + 1 * i := by omega
theorem nE_8920_7_0_8908_1 {i j : Nat} (hj : j < 0) : 8920 + 7 * j ≠ 8908 + 1 * i := by omega
theorem nE_9586_2_0_8908_1 {i j : Nat} (hj : j < 0) : 9586 + 2 * j ≠ 8908 + 1 * i := by omega
theorem nE_9587_2_0_8908_1 {i j : Nat} (hj : j < 0) : 9587 + 2 * j ≠ 8908 + 1 * i := by omega
set_option maxHeartbeats 4000000 in
set_option maxRecDepth 100000 in
theorem a_X10_keepsTexts_g (l : Launch) (K : KE) (G : Nat → Option Nat) (H : Heap) {a0 : Nat} {iq : Nat} {q24 : Nat} {q25 : Nat} {q26 : Nat} {q27 : Nat} {q28 : Nat} {q29 : Nat} {q30 : Nat} {q31 : Nat} {q32 : Nat} {q33 : Nat} (ia : Int32) (tk : Int32) (hT : TY K G H) (ga0 : G a0 = some 112) (giq : G iq = some 162) (eiq : @Eq Ad iq (fR H a0 (K.1.2 10 73))) (gq24 : G q24 = some 128) (eq24 : @Eq Ad q24 (fR H a0 (K.1.2 10 24))) (gq25 : G q25 = some 129) (eq25 : @Eq Ad q25 (fR H a0 (K.1.2 10 25))) (gq26 : G q26 = some 130) (eq26 : @Eq Ad q26 (fR H a0 (K.1.2 10 26))) (gq27 : G q27 = some 131) (eq27 : @Eq Ad q27 (fR H a0 (K.1.2 10 27))) (gq28 : G q28 = some 132) (eq28 : @Eq Ad q28 (fR H a0 (K.1.2 10 28))) (gq29 : G q29 = some 133) (eq29 : @Eq Ad q29 (fR H a0 (K.1.2 10 29))) (gq30 : G q30 = some 134) (eq30 : @Eq Ad q30 (fR H a0 (K.1.2 10 30))) (gq31 : G q31 = some 135) (eq31 : @Eq Ad q31 (fR H a0 (K.1.2 10 31))) (gq32 : G q32 = some 136) (eq32 : @Eq Ad q32 (fR H a0 (K.1.2 10 32))) (gq33 : G q33 = some 137) (eq33 : @Eq Ad q33 (fR H a0 (K.1.2 10 33))) (eia : ia = fI H a0 (K.1.2 10 72)) (etk : tk = fI H a0 (K.1.2 10 71)) (hg_WD : WD (avw K H a0)) (hp0 : ia.toInt = 8908) (hy0 : tk.toInt = 0 → IMw (fun k => fI H iq k)) : MX l K yX10_keepsTexts cX10_keepsTexts 2 none 1 21 0 0 [.ref a0] H (AE G [112, 162, 128, 129, 130, 131, 132, 133, 134, 135, 136, 137] H.size) (fun v H1 => ∃ (t0 : Int32), v = none ∧ t0 = fI H1 a0 (K.1.2 10 72) ∧ (t0.toInt = 15586) ∧ @Eq Ad iq (fR H1 a0 (K.1.2 10 73)) ∧ @Eq Ad q24 (fR H1 a0 (K.1.2 10 24)) ∧ @Eq Ad q25 (fR H1 a0 (K.1.2 10 25)) ∧ @Eq Ad q26 (fR H1 a0 (K.1.2 10 26)) ∧ @Eq Ad q27 (fR H1 a0 (K.1.2 10 27)) ∧ @Eq Ad q28 (fR H1 a0 (K.1.2 10 28)) ∧ @Eq Ad q29 (fR H1 a0 (K.1.2 10 29)) ∧ @Eq Ad q30 (fR H1 a0 (K.1.2 10 30)) ∧ @Eq Ad q31 (fR H1 a0 (K.1.2 10 31)) ∧ @Eq Ad q32 (fR H1 a0 (K.1.2 10 32)) ∧ @Eq Ad q33 (fR H1 a0 (K.1.2 10 33)) ∧ (WD (avw K H1 a0)) ∧ MF K H H1 a0 [72] ∧ (UN (tk.toInt = 0) (fun k => fI H1 iq k) (fun k => fI H iq k)) ∧ (FB (fun k => fI H1 iq k) (fun k => fI H iq k) 8908) ∧ (EQ (fun k => fI H1 q24 k) (fun k => fI H1 iq k) 8908 1 6) ∧ (EQ (fun k => fI H1 q25 k) (fun k => fI H1 iq k) 8914 7 96) ∧ (EQ (fun k => fI H1 q26 k) (fun k => fI H1 iq k) 8915 7 96) ∧ (EQ (fun k => fI H1 q27 k) (fun k => fI H1 iq k) 8916 7 96) ∧ (EQ (fun k => fI H1 q28 k) (fun k => fI H1 iq k) 8917 7 96) ∧ (EQ (fun k => fI H1 q29 k) (fun k => fI H1 iq k) 8918 7 96) ∧ (EQ (fun k => fI H1 q30 k) (fun k => fI H1 iq k) 8919 7 96) ∧ (EQ (fun k => fI H1 q31 k) (fun k => fI H1 iq k) 8920 7 96) ∧ (EQ (fun k => fI H1 q32 k) (fun k => fI H1 iq k) 9586 2 3000) ∧ (EQ (fun k => fI H1 q33 k) (fun k => fI H1 iq k) 9587 2 3000) ∧ (UN (tk.toInt ≠ 0) (fun k => fI H1 q24 k) (fun k => fI H q24 k)) ∧ (UN (tk.toInt ≠ 0) (fun k => fI H1 q25 k) (fun k => fI H q25 k)) ∧ (UN (tk.toInt ≠ 0) (fun k => fI H1 q26 k) (fun k => fI H q26 k)) ∧ (UN (tk.toInt ≠ 0) (fun k => fI H1 q27 k) (fun k => fI H q27 k)) ∧ (UN (tk.toInt ≠ 0) (fun k => fI H1 q28 k) (fun k => fI H q28 k)) ∧ (UN (tk.toInt ≠ 0) (fun k => fI H1 q29 k) (fun k => fI H q29 k)) ∧ (UN (tk.toInt ≠ 0) (fun k => fI H1 q30 k) (fun k => fI H q30 k)) ∧ (UN (tk.toInt ≠ 0) (fun k => fI H1 q31 k) (fun k => fI H q31 k)) ∧ (UN (tk.toInt ≠ 0) (fun k => fI H1 q32 k) (fun k => fI H q32 k)) ∧ (UN (tk.toInt ≠ 0) (fun k => fI H1 q33 k) (fun k => fI H q33 k)) ∧ TY K G H1) := by
  refine MX.of (by decide +kernel) (Nat.le_of_ble_eq_true rfl) ?_
  intro p e s m below meth c ls Q C hH hl hQ
  subst hH
  have C : CX p K s m _ meth c RX10 cX10_keepsTexts 2 none "keepsTexts" := C
  obtain ⟨hx, hb, hml, hown, hts, hKT, hr, hlocks, hnm⟩ := id C
  have hl : lv_has ls 2 [(0, .ref a0)] := hl
  have hS : va_S (AE G [112, 162, 128, 129, 130, 131, 132, 133, 134, 135, 136, 137] s.heap.size) s.heap s.heap [] := va_S.rf
  have n_0 : (0 : Int32).toInt = 0 := rfl
  have n_1 : (1 : Int32).toInt = 1 := rfl
  have n_6 : (6 : Int32).toInt = 6 := rfl
  have n_96 : (96 : Int32).toInt = 96 := rfl
  have n_3000 : (3000 : Int32).toInt = 3000 := rfl
  have bia := ty_fi (x := ia) (k := 72) eia hT ga0 rg_112 rfl
  have btk := ty_fi (x := tk) (k := 71) etk hT ga0 rg_112 rfl
  have hap : ∀ x y, x < 74 → y < 74 → x ≠ y → K.1.2 10 x ≠ K.1.2 10 y := x_apart hKT hts inX10 tyX10 tyX10_ok nmX10 rfl
  have mf0 : MF K s.heap s.heap a0 [72] := fun _ _ _ => rfl
  replace eiq := EQN.mk eiq
  replace eq24 := EQN.mk eq24
  replace eq25 := EQN.mk eq25
  replace eq26 := EQN.mk eq26
  replace eq27 := EQN.mk eq27
  replace eq28 := EQN.mk eq28
  replace eq29 := EQN.mk eq29
  replace eq30 := EQN.mk eq30
  replace eq31 := EQN.mk eq31
  replace eq32 := EQN.mk eq32
  replace eq33 := EQN.mk eq33
  have J158 : ∀ (nf : Nat) (ls17668 : Array Slot) (H17667 : Heap) (locsH17667 : List Loc) (x17670 : Int32) (x17671 : Int32), lv_has ls17668 2 [(0, .ref a0), (1, .int x17670)] → TY K G H17667 → va_S (AE G [112, 162, 128, 129, 130, 131, 132, 133, 134, 135, 136, 137] s.heap.size) s.heap H17667 locsH17667 → (0 ≤ x17670.toInt ∧ x17670.toInt ≤ 3000) → (0 ≤ x17671.toInt ∧ x17671.toInt ≤ 16400) → (x17671 = fI H17667 a0 (K.1.2 10 72)) → (EQN iq (fR H17667 a0 (K.1.2 10 73))) → (EQN q24 (fR H17667 a0 (K.1.2 10 24))) → (EQN q25 (fR H17667 a0 (K.1.2 10 25))) → (EQN q26 (fR H17667 a0 (K.1.2 10 26))) → (EQN q27 (fR H17667 a0 (K.1.2 10 27))) → (EQN q28 (fR H17667 a0 (K.1.2 10 28))) → (EQN q29 (fR H17667 a0 (K.1.2 10 29))) → (EQN q30 (fR H17667 a0 (K.1.2 10 30))) → (EQN q31 (fR H17667 a0 (K.1.2 10 31))) → (EQN q32 (fR H17667 a0 (K.1.2 10 32))) → (EQN q33 (fR H17667 a0 (K.1.2 10 33))) → (tk = fI H17667 a0 (K.1.2 10 71)) → (UN (tk.toInt = 0) (fun k => fI H17667 iq k) (fun k => fI s.heap iq k)) → (FB (fun k => fI H17667 iq k) (fun k => fI s.heap iq k) (8908)) → (EQ (fun k => fI H17667 q24 k) (fun k => fI H17667 iq k) (8908) (1) (6)) → (EQ (fun k => fI H17667 q25 k) (fun k => fI H17667 iq k) (8914) (7) (96)) → (EQ (fun k => fI H17667 q26 k) (fun k => fI H17667 iq k) (8915) (7) (96)) → (EQ (fun k => fI H17667 q27 k) (fun k => fI H17667 iq k) (8916) (7) (96)) → (EQ (fun k => fI H17667 q28 k) (fun k => fI H17667 iq k) (8917) (7) (96)) → (EQ (fun k => fI H17667 q29 k) (fun k => fI H17667 iq k) (8918) (7) (96)) → (EQ (fun k => fI H17667 q30 k) (fun k => fI H17667 iq k) (8919) (7) (96)) → (EQ (fun k => fI H17667 q31 k) (fun k => fI H17667 iq k) (8920) (7) (96)) → (EQ (fun k => fI H17667 q32 k) (fun k => fI H17667 iq k) (9586) (2) (x17670.toNatClampNeg)) → (EQ (fun k => fI H17667 q33 k) (fun k => fI H17667 iq k) (9587) (2) (x17670.toNatClampNeg)) → (UN (tk.toInt ≠ 0) (fun k => fI H17667 q24 k) (fun k => fI s.heap q24 k)) → (UN (tk.toInt ≠ 0) (fun k => fI H17667 q25 k) (fun k => fI s.heap q25 k)) → (UN (tk.toInt ≠ 0) (fun k => fI H17667 q26 k) (fun k => fI s.heap q26 k)) → (UN (tk.toInt ≠ 0) (fun k => fI H17667 q27 k) (fun k => fI s.heap q27 k)) → (UN (tk.toInt ≠ 0) (fun k => fI H17667 q28 k) (fun k => fI s.heap q28 k)) → (UN (tk.toInt ≠ 0) (fun k => fI H17667 q29 k) (fun k => fI s.heap q29 k)) → (UN (tk.toInt ≠ 0) (fun k => fI H17667 q30 k) (fun k => fI s.heap q30 k)) → (UN (tk.toInt ≠ 0) (fun k => fI H17667 q31 k) (fun k => fI s.heap q31 k)) → (UN (tk.toInt ≠ 0) (fun k => fI H17667 q32 k) (fun k => fI s.heap q32 k)) → (UN (tk.toInt ≠ 0) (fun k => fI H17667 q33 k) (fun k => fI s.heap q33 k)) → (MF K s.heap H17667 a0 [72]) → (WD (avw K H17667 a0)) → (3000 - x17670.toInt < (nf : Int)) → (x17671.toInt = 9586 + 2 * x17670.toInt) → W p l e ({ frames := 1, cells := 0, slots := 0, locals := 21 } : Room) s m (([.ref a0] : List Value).toArray) below meth c H17667 locsH17667 0 0 Q (F0 m 158 ls17668 []) := by
    intro nf
    induction nf with
    | zero =>
      intro ls17668 H17667 locsH17667 x17670 x17671 hl17669 hTH17667 hSH17667 bx17670 bx17671 ex17671 cy17672_0 cy17672_1 cy17672_2 cy17672_3 cy17672_4 cy17672_5 cy17672_6 cy17672_7 cy17672_8 cy17672_9 cy17672_10 cy17672_11 by17672_ui by17672_fb by17672_e24 by17672_e25 by17672_e26 by17672_e27 by17672_e28 by17672_e29 by17672_e30 by17672_e31 by17672_e32 by17672_e33 by17672_u24 by17672_u25 by17672_u26 by17672_u27 by17672_u28 by17672_u29 by17672_u30 by17672_u31 by17672_u32 by17672_u33 mfy17672 gy17672_WD hm158 iv158
      exfalso
      omega
    | succ nf ih158 =>
      intro ls17668 H17667 locsH17667 x17670 x17671 hl17669 hTH17667 hSH17667 bx17670 bx17671 ex17671 cy17672_0 cy17672_1 cy17672_2 cy17672_3 cy17672_4 cy17672_5 cy17672_6 cy17672_7 cy17672_8 cy17672_9 cy17672_10 cy17672_11 by17672_ui by17672_fb by17672_e24 by17672_e25 by17672_e26 by17672_e27 by17672_e28 by17672_e29 by17672_e30 by17672_e31 by17672_e32 by17672_e33 by17672_u24 by17672_u25 by17672_u26 by17672_u27 by17672_u28 by17672_u29 by17672_u30 by17672_u31 by17672_u32 by17672_u33 mfy17672 gy17672_WD hm158 iv158
      refine lv_iload_n hx hb dX10_keepsTexts_158 rfl (lv_at hl17669 1 rfl) ?_
      refine lv_sipush (v := 3000) hx hb dX10_keepsTexts_159 (by decide) ?_
      refine lv_icmp_ge (tgt := 203) hx hb dX10_keepsTexts_162 (by decide) (fun c17673 => ?_) (fun c17673 => ?_)
      · have k17674 := i_le c17673
        have ce_x17670 := i_cl (x := x17670) bx17670.1
        exact x_vret C hQ dX10_keepsTexts_203 hSH17667 (by decide) (by decide) (⟨x17671, rfl, ex17671, by omega, cy17672_0, cy17672_1, cy17672_2, cy17672_3, cy17672_4, cy17672_5, cy17672_6, cy17672_7, cy17672_8, cy17672_9, cy17672_10, gy17672_WD, mfy17672, by17672_ui, by17672_fb, (EQ.cast by17672_e24 (by omega)), (EQ.cast by17672_e25 (by omega)), (EQ.cast by17672_e26 (by omega)), (EQ.cast by17672_e27 (by omega)), (EQ.cast by17672_e28 (by omega)), (EQ.cast by17672_e29 (by omega)), (EQ.cast by17672_e30 (by omega)), (EQ.cast by17672_e31 (by omega)), (EQ.cast by17672_e32 (by omega)), (EQ.cast by17672_e33 (by omega)), by17672_u24, by17672_u25, by17672_u26, by17672_u27, by17672_u28, by17672_u29, by17672_u30, by17672_u31, by17672_u32, by17672_u33, hTH17667⟩)
      · have k17674 := i_nle c17673
        refine lv_aload_n hx hb dX10_keepsTexts_165 rfl (lv_at hl17669 0 rfl) ?_
        refine x_gr C hTH17667 (ci := 10) (k := 32) rfl inX10 (by decide) wF_X10_83 ga0 rg_112 rfl dX10_keepsTexts_166 (fun q17675 eq17675 gq17675 => ?_)
        have uq17675 : q32 = q17675 := (cy17672_9).trans eq17675.symm
        subst uq17675
        clear eq17675
        refine lv_iload_n hx hb dX10_keepsTexts_169 rfl (lv_at hl17669 1 rfl) ?_
        refine lv_aload_n hx hb dX10_keepsTexts_170 rfl (lv_at hl17669 0 rfl) ?_
        refine lv_aload_n hx hb dX10_keepsTexts_171 rfl (lv_at hl17669 0 rfl) ?_
        refine x_gr C hTH17667 (ci := 10) (k := 32) rfl inX10 (by decide) wF_X10_83 ga0 rg_112 rfl dX10_keepsTexts_172 (fun q17676 eq17676 gq17676 => ?_)
        have uq17676 : q32 = q17676 := (cy17672_9).trans eq17676.symm
        subst uq17676
        clear eq17676
        refine lv_iload_n hx hb dX10_keepsTexts_175 rfl (lv_at hl17669 1 rfl) ?_
        refine x_ai C hTH17667 gq32 rg_136 ⟨bx17670.1, Int.lt_of_le_of_lt bx17670.2 (by decide)⟩ dX10_keepsTexts_176 (fun x17677 ex17677 bx17677 => ?_)
        refine x_V (As := [.int x17677]) (rest := [.int x17670, .ref q32]) C (a_X10_kept l K G H17667 (x17677) (x17671) (tk) hTH17667 ga0 giq cy17672_0 ex17671 cy17672_11 gy17672_WD (by and_intros <;> first | assumption | omega)) yo_X10_kept wM_X10_473 ⟨⟨by decide, by decide⟩, by decide, by decide⟩ (x_rv C hTH17667 (ci := 10) rfl ga0 rg_112) rfl hl17669.1 rfl (Nat.le_of_ble_eq_true rfl) dX10_keepsTexts_177 hSH17667 (AE_sub (fun _ _ => rfl) (by decide) hSH17667.1) (fun vH17678 H17678 locsH17678 pH17678 zH17678 kH17678 hSH17678 => ?_)
        obtain ⟨x17679, x17680, hvH17678, ex17680, hrH17678, m17681, g17682, mf17683, m17684, m17685, m17686, m17687, hTH17678⟩ := pH17678
        subst hvH17678
        clear zH17678
        replace m17681 := EQN.mk m17681
        have b17688 : UN (tk.toInt ≠ 0) (fun k => fI H17678 q24 k) (fun k => fI s.heap q24 k) := UN.congr (fun j => fI_kept (x_lt hTH17667 kH17678 gq24 (by decide))) by17672_u24
        have b17689 : UN (tk.toInt ≠ 0) (fun k => fI H17678 q25 k) (fun k => fI s.heap q25 k) := UN.congr (fun j => fI_kept (x_lt hTH17667 kH17678 gq25 (by decide))) by17672_u25
        have b17690 : UN (tk.toInt ≠ 0) (fun k => fI H17678 q26 k) (fun k => fI s.heap q26 k) := UN.congr (fun j => fI_kept (x_lt hTH17667 kH17678 gq26 (by decide))) by17672_u26
        have b17691 : UN (tk.toInt ≠ 0) (fun k => fI H17678 q27 k) (fun k => fI s.heap q27 k) := UN.congr (fun j => fI_kept (x_lt hTH17667 kH17678 gq27 (by decide))) by17672_u27
        have b17692 : UN (tk.toInt ≠ 0) (fun k => fI H17678 q28 k) (fun k => fI s.heap q28 k) := UN.congr (fun j => fI_kept (x_lt hTH17667 kH17678 gq28 (by decide))) by17672_u28
        have b17693 : UN (tk.toInt ≠ 0) (fun k => fI H17678 q29 k) (fun k => fI s.heap q29 k) := UN.congr (fun j => fI_kept (x_lt hTH17667 kH17678 gq29 (by decide))) by17672_u29
        have b17694 : UN (tk.toInt ≠ 0) (fun k => fI H17678 q30 k) (fun k => fI s.heap q30 k) := UN.congr (fun j => fI_kept (x_lt hTH17667 kH17678 gq30 (by decide))) by17672_u30
        have b17695 : UN (tk.toInt ≠ 0) (fun k => fI H17678 q31 k) (fun k => fI s.heap q31 k) := UN.congr (fun j => fI_kept (x_lt hTH17667 kH17678 gq31 (by decide))) by17672_u31
        have b17696 : UN (tk.toInt ≠ 0) (fun k => fI H17678 q32 k) (fun k => fI s.heap q32 k) := UN.congr (fun j => fI_kept (x_lt hTH17667 kH17678 gq32 (by decide))) by17672_u32
        have b17697 : UN (tk.toInt ≠ 0) (fun k => fI H17678 q33 k) (fun k => fI s.heap q33 k) := UN.congr (fun j => fI_kept (x_lt hTH17667 kH17678 gq33 (by decide))) by17672_u33
        have m17698 := (ex17677).trans (fI_kept (x_lt hTH17667 kH17678 gq32 (by decide))).symm
        have m17699 := (cy17672_0).trans (MF.r mf17683 (k := 73) (by decide) (by decide)).symm
        have m17700 := (cy17672_1).trans (MF.r mf17683 (k := 24) (by decide) (by decide)).symm
        have m17701 := (cy17672_2).trans (MF.r mf17683 (k := 25) (by decide) (by decide)).symm
        have m17702 := (cy17672_3).trans (MF.r mf17683 (k := 26) (by decide) (by decide)).symm
        have m17703 := (cy17672_4).trans (MF.r mf17683 (k := 27) (by decide) (by decide)).symm
        have m17704 := (cy17672_5).trans (MF.r mf17683 (k := 28) (by decide) (by decide)).symm
        have m17705 := (cy17672_6).trans (MF.r mf17683 (k := 29) (by decide) (by decide)).symm
        have m17706 := (cy17672_7).trans (MF.r mf17683 (k := 30) (by decide) (by decide)).symm
        have m17707 := (cy17672_8).trans (MF.r mf17683 (k := 31) (by decide) (by decide)).symm
        have m17708 := (cy17672_9).trans (MF.r mf17683 (k := 32) (by decide) (by decide)).symm
        have m17709 := (cy17672_10).trans (MF.r mf17683 (k := 33) (by decide) (by decide)).symm
        have m17710 := (cy17672_11).trans (MF.i mf17683 (k := 71) (by decide) (by decide)).symm
        have mf17711 : MF K s.heap H17678 a0 [72] := MF.trans mfy17672 mf17683 (by decide)
        have bx17680 := ty_fi (x := x17680) (k := 72) ex17680 hTH17678 ga0 rg_112 rfl
        have ce_x17670 := i_cl (x := x17670) bx17670.1
        have ce_x17671 := i_cl (x := x17671) bx17671.1
        have e_ : x17671.toNatClampNeg = 9586 + 2 * x17670.toNatClampNeg := by omega
        have k3e_ := m17686
        rw [e_] at k3e_
        have b17712 : UN (tk.toInt = 0) (fun k => fI H17678 iq k) (fun k => fI s.heap iq k) := UN.tr m17687 by17672_ui
        have b17713 : FB (fun k => fI H17678 iq k) (fun k => fI s.heap iq k) (8908) := FB.wr by17672_fb k3e_ (fun j hj => Nat.ne_of_lt (Nat.lt_of_lt_of_le hj (Nat.le_trans (by decide : 8908 ≤ 9586) (Nat.le_add_right _ _))))
        have b17714 : EQ (fun k => fI H17678 q24 k) (fun k => fI H17678 iq k) (8908) (1) (6) := EQ.wr (EQ.congr (w1 := fun k => fI H17667 iq k) (fun j => fI_kept (x_lt hTH17667 kH17678 gq24 (by decide))) (fun _ => rfl) by17672_e24) k3e_ (fun j hj => nE_8908_1_6_9586_2 hj)
        have b17715 : EQ (fun k => fI H17678 q25 k) (fun k => fI H17678 iq k) (8914) (7) (96) := EQ.wr (EQ.congr (w1 := fun k => fI H17667 iq k) (fun j => fI_kept (x_lt hTH17667 kH17678 gq25 (by decide))) (fun _ => rfl) by17672_e25) k3e_ (fun j hj => nE_8914_7_96_9586_2 hj)
        have b17716 : EQ (fun k => fI H17678 q26 k) (fun k => fI H17678 iq k) (8915) (7) (96) := EQ.wr (EQ.congr (w1 := fun k => fI H17667 iq k) (fun j => fI_kept (x_lt hTH17667 kH17678 gq26 (by decide))) (fun _ => rfl) by17672_e26) k3e_ (fun j hj => nE_8915_7_96_9586_2 hj)
        have b17717 : EQ (fun k => fI H17678 q27 k) (fun k => fI H17678 iq k) (8916) (7) (96) := EQ.wr (EQ.congr (w1 := fun k => fI H17667 iq k) (fun j => fI_kept (x_lt hTH17667 kH17678 gq27 (by decide))) (fun _ => rfl) by17672_e27) k3e_ (fun j hj => nE_8916_7_96_9586_2 hj)
        have b17718 : EQ (fun k => fI H17678 q28 k) (fun k => fI H17678 iq k) (8917) (7) (96) := EQ.wr (EQ.congr (w1 := fun k => fI H17667 iq k) (fun j => fI_kept (x_lt hTH17667 kH17678 gq28 (by decide))) (fun _ => rfl) by17672_e28) k3e_ (fun j hj => nE_8917_7_96_9586_2 hj)
        have b17719 : EQ (fun k => fI H17678 q29 k) (fun k => fI H17678 iq k) (8918) (7) (96) := EQ.wr (EQ.congr (w1 := fun k => fI H17667 iq k) (fun j => fI_kept (x_lt hTH17667 kH17678 gq29 (by decide))) (fun _ => rfl) by17672_e29) k3e_ (fun j hj => nE_8918_7_96_9586_2 hj)
        have b17720 : EQ (fun k => fI H17678 q30 k) (fun k => fI H17678 iq k) (8919) (7) (96) := EQ.wr (EQ.congr (w1 := fun k => fI H17667 iq k) (fun j => fI_kept (x_lt hTH17667 kH17678 gq30 (by decide))) (fun _ => rfl) by17672_e30) k3e_ (fun j hj => nE_8919_7_96_9586_2 hj)
        have b17721 : EQ (fun k => fI H17678 q31 k) (fun k => fI H17678 iq k) (8920) (7) (96) := EQ.wr (EQ.congr (w1 := fun k => fI H17667 iq k) (fun j => fI_kept (x_lt hTH17667 kH17678 gq31 (by decide))) (fun _ => rfl) by17672_e31) k3e_ (fun j hj => nE_8920_7_96_9586_2 hj)
        have b17722 : EQ (fun k => fI H17678 q32 k) (fun k => fI H17678 iq k) (9586) (2) (x17670.toNatClampNeg) := EQ.wr (EQ.congr (w1 := fun k => fI H17667 iq k) (fun j => fI_kept (x_lt hTH17667 kH17678 gq32 (by decide))) (fun _ => rfl) by17672_e32) k3e_ (fun j hj => nE_9586_2_i_9586_2 hj)
        have b17723 : EQ (fun k => fI H17678 q33 k) (fun k => fI H17678 iq k) (9587) (2) (x17670.toNatClampNeg) := EQ.wr (EQ.congr (w1 := fun k => fI H17667 iq k) (fun j => fI_kept (x_lt hTH17667 kH17678 gq33 (by decide))) (fun _ => rfl) by17672_e33) k3e_ (fun j hj => nE_9587_2_i_9586_2 hj)
        clear by17672_e24 by17672_e25 by17672_e26 by17672_e27 by17672_e28 by17672_e29 by17672_e30 by17672_e31 by17672_e32 by17672_e33 by17672_fb by17672_u24 by17672_u25 by17672_u26 by17672_u27 by17672_u28 by17672_u29 by17672_u30 by17672_u31 by17672_u32 by17672_u33 by17672_ui cy17672_0 cy17672_1 cy17672_10 cy17672_11 cy17672_2 cy17672_3 cy17672_4 cy17672_5 cy17672_6 cy17672_7 cy17672_8 cy17672_9 ex17671 ex17677
        clear m17686 m17687 k3e_ e_
        refine W.eq (g2 := F0 m 180 ls17668 [.int x17679, .int x17670, .ref q32]) rfl ?_
        refine x_iast C hTH17678 hSH17678 gq32 rg_136 bx17670.1 (Int.lt_of_le_of_lt bx17670.2 (by decide)) (i_rng x17679) (AE_in gq32 (by decide)) dX10_keepsTexts_180 (fun H17724 locsH17724 hTH17724 hSH17724 wH17724 => ?_)
        have mf17725 : MF K s.heap H17724 a0 [72] := MF.arr wH17724 (G_ne ga0 gq32 (by decide)) mf17711
        have g17726 : WD (avw K H17724 a0) := WD.congr (fun k hk j => av_arr hTH17678 ga0 wH17724 gq32 (by decide) (WD_ok 136 (by decide) k hk)) g17682
        have b17727 : UN (tk.toInt ≠ 0) (fun k => fI H17724 q24 k) (fun k => fI s.heap q24 k) := UN.congr (fun j => Wr.neI wH17724 (Or.inl (G_ne gq24 gq32 (by decide)))) b17688
        have b17728 : UN (tk.toInt ≠ 0) (fun k => fI H17724 q25 k) (fun k => fI s.heap q25 k) := UN.congr (fun j => Wr.neI wH17724 (Or.inl (G_ne gq25 gq32 (by decide)))) b17689
        have b17729 : UN (tk.toInt ≠ 0) (fun k => fI H17724 q26 k) (fun k => fI s.heap q26 k) := UN.congr (fun j => Wr.neI wH17724 (Or.inl (G_ne gq26 gq32 (by decide)))) b17690
        have b17730 : UN (tk.toInt ≠ 0) (fun k => fI H17724 q27 k) (fun k => fI s.heap q27 k) := UN.congr (fun j => Wr.neI wH17724 (Or.inl (G_ne gq27 gq32 (by decide)))) b17691
        have b17731 : UN (tk.toInt ≠ 0) (fun k => fI H17724 q28 k) (fun k => fI s.heap q28 k) := UN.congr (fun j => Wr.neI wH17724 (Or.inl (G_ne gq28 gq32 (by decide)))) b17692
        have b17732 : UN (tk.toInt ≠ 0) (fun k => fI H17724 q29 k) (fun k => fI s.heap q29 k) := UN.congr (fun j => Wr.neI wH17724 (Or.inl (G_ne gq29 gq32 (by decide)))) b17693
        have b17733 : UN (tk.toInt ≠ 0) (fun k => fI H17724 q30 k) (fun k => fI s.heap q30 k) := UN.congr (fun j => Wr.neI wH17724 (Or.inl (G_ne gq30 gq32 (by decide)))) b17694
        have b17734 : UN (tk.toInt ≠ 0) (fun k => fI H17724 q31 k) (fun k => fI s.heap q31 k) := UN.congr (fun j => Wr.neI wH17724 (Or.inl (G_ne gq31 gq32 (by decide)))) b17695
        have b17735 : UN (tk.toInt ≠ 0) (fun k => fI H17724 q32 k) (fun k => fI s.heap q32 k) := UN.st b17696 (i := x17670.toNatClampNeg) (fun hc => (m17685 hc).trans m17698) (Wr.I wH17724) (fun j hj => Wr.neI wH17724 (Or.inr hj))
        have b17736 : UN (tk.toInt ≠ 0) (fun k => fI H17724 q33 k) (fun k => fI s.heap q33 k) := UN.congr (fun j => Wr.neI wH17724 (Or.inl (G_ne gq33 gq32 (by decide)))) b17697
        have b17737 : UN (tk.toInt = 0) (fun k => fI H17724 iq k) (fun k => fI s.heap iq k) := UN.congr (fun j => Wr.neI wH17724 (Or.inl (G_ne giq gq32 (by decide)))) b17712
        have b17738 : FB (fun k => fI H17724 iq k) (fun k => fI s.heap iq k) (8908) := FB.congr (fun j => Wr.neI wH17724 (Or.inl (G_ne giq gq32 (by decide)))) b17713
        have b17739 : EQ (fun k => fI H17724 q24 k) (fun k => fI H17724 iq k) (8908) (1) (6) := EQ.congr (fun j => Wr.neI wH17724 (Or.inl (G_ne gq24 gq32 (by decide)))) (fun j => Wr.neI wH17724 (Or.inl (G_ne giq gq32 (by decide)))) b17714
        have b17740 : EQ (fun k => fI H17724 q25 k) (fun k => fI H17724 iq k) (8914) (7) (96) := EQ.congr (fun j => Wr.neI wH17724 (Or.inl (G_ne gq25 gq32 (by decide)))) (fun j => Wr.neI wH17724 (Or.inl (G_ne giq gq32 (by decide)))) b17715
        have b17741 : EQ (fun k => fI H17724 q26 k) (fun k => fI H17724 iq k) (8915) (7) (96) := EQ.congr (fun j => Wr.neI wH17724 (Or.inl (G_ne gq26 gq32 (by decide)))) (fun j => Wr.neI wH17724 (Or.inl (G_ne giq gq32 (by decide)))) b17716
        have b17742 : EQ (fun k => fI H17724 q27 k) (fun k => fI H17724 iq k) (8916) (7) (96) := EQ.congr (fun j => Wr.neI wH17724 (Or.inl (G_ne gq27 gq32 (by decide)))) (fun j => Wr.neI wH17724 (Or.inl (G_ne giq gq32 (by decide)))) b17717
        have b17743 : EQ (fun k => fI H17724 q28 k) (fun k => fI H17724 iq k) (8917) (7) (96) := EQ.congr (fun j => Wr.neI wH17724 (Or.inl (G_ne gq28 gq32 (by decide)))) (fun j => Wr.neI wH17724 (Or.inl (G_ne giq gq32 (by decide)))) b17718
        have b17744 : EQ (fun k => fI H17724 q29 k) (fun k => fI H17724 iq k) (8918) (7) (96) := EQ.congr (fun j => Wr.neI wH17724 (Or.inl (G_ne gq29 gq32 (by decide)))) (fun j => Wr.neI wH17724 (Or.inl (G_ne giq gq32 (by decide)))) b17719
        have b17745 : EQ (fun k => fI H17724 q30 k) (fun k => fI H17724 iq k) (8919) (7) (96) := EQ.congr (fun j => Wr.neI wH17724 (Or.inl (G_ne gq30 gq32 (by decide)))) (fun j => Wr.neI wH17724 (Or.inl (G_ne giq gq32 (by decide)))) b17720
        have b17746 : EQ (fun k => fI H17724 q31 k) (fun k => fI H17724 iq k) (8920) (7) (96) := EQ.congr (fun j => Wr.neI wH17724 (Or.inl (G_ne gq31 gq32 (by decide)))) (fun j => Wr.neI wH17724 (Or.inl (G_ne giq gq32 (by decide)))) b17721
        have b17747 : EQ (fun k => fI H17724 q32 k) (fun k => fI H17724 iq k) (9586) (2) (x17670.toNatClampNeg + 1) := EQ.st b17722 (i := x17670.toNatClampNeg) (t := x17671.toNatClampNeg) (by omega) m17684 (by omega) (Wr.I wH17724) (fun j hj => Wr.neI wH17724 (Or.inr hj)) (fun j => Wr.neI wH17724 (Or.inl (G_ne giq gq32 (by decide))))
        have b17748 : EQ (fun k => fI H17724 q33 k) (fun k => fI H17724 iq k) (9587) (2) (x17670.toNatClampNeg) := EQ.congr (fun j => Wr.neI wH17724 (Or.inl (G_ne gq33 gq32 (by decide)))) (fun j => Wr.neI wH17724 (Or.inl (G_ne giq gq32 (by decide)))) b17723
        have m17750 := m17681.trans (Wr.neR wH17724 (Or.inl (G_ne ga0 gq32 (by decide)))).symm
        have m17751 := m17700.trans (Wr.neR wH17724 (Or.inl (G_ne ga0 gq32 (by decide)))).symm
        have m17752 := m17701.trans (Wr.neR wH17724 (Or.inl (G_ne ga0 gq32 (by decide)))).symm
        have m17753 := m17702.trans (Wr.neR wH17724 (Or.inl (G_ne ga0 gq32 (by decide)))).symm
        have m17754 := m17703.trans (Wr.neR wH17724 (Or.inl (G_ne ga0 gq32 (by decide)))).symm
        have m17755 := m17704.trans (Wr.neR wH17724 (Or.inl (G_ne ga0 gq32 (by decide)))).symm
        have m17756 := m17705.trans (Wr.neR wH17724 (Or.inl (G_ne ga0 gq32 (by decide)))).symm
        have m17757 := m17706.trans (Wr.neR wH17724 (Or.inl (G_ne ga0 gq32 (by decide)))).symm
        have m17758 := m17707.trans (Wr.neR wH17724 (Or.inl (G_ne ga0 gq32 (by decide)))).symm
        have m17759 := m17708.trans (Wr.neR wH17724 (Or.inl (G_ne ga0 gq32 (by decide)))).symm
        have m17760 := m17709.trans (Wr.neR wH17724 (Or.inl (G_ne ga0 gq32 (by decide)))).symm
        have m17761 := m17710.trans (Wr.neI wH17724 (Or.inl (G_ne ga0 gq32 (by decide)))).symm
        have m17762 := ex17680.trans (Wr.neI wH17724 (Or.inl (G_ne ga0 gq32 (by decide)))).symm
        have m17763 := Wr.I wH17724
        have m17763 := m17763.symm
        clear b17688 b17689 b17690 b17691 b17692 b17693 b17694 b17695 b17696 b17697 b17712 b17713 b17714 b17715 b17716 b17717 b17718 b17719 b17720 b17721 b17722 b17723 ex17680 g17682 hTH17678 m17681 m17698 m17700 m17701 m17702 m17703 m17704 m17705 m17706 m17707 m17708 m17709 m17710 mf17711
        refine lv_aload_n hx hb dX10_keepsTexts_181 rfl (lv_at hl17669 0 rfl) ?_
        refine x_gr C hTH17724 (ci := 10) (k := 33) rfl inX10 (by decide) wF_X10_86 ga0 rg_112 rfl dX10_keepsTexts_182 (fun q17764 eq17764 gq17764 => ?_)
        have uq17764 : q33 = q17764 := (m17760).trans eq17764.symm
        subst uq17764
        clear eq17764
        refine lv_iload_n hx hb dX10_keepsTexts_185 rfl (lv_at hl17669 1 rfl) ?_
        refine lv_aload_n hx hb dX10_keepsTexts_186 rfl (lv_at hl17669 0 rfl) ?_
        refine lv_aload_n hx hb dX10_keepsTexts_187 rfl (lv_at hl17669 0 rfl) ?_
        refine x_gr C hTH17724 (ci := 10) (k := 33) rfl inX10 (by decide) wF_X10_86 ga0 rg_112 rfl dX10_keepsTexts_188 (fun q17765 eq17765 gq17765 => ?_)
        have uq17765 : q33 = q17765 := (m17760).trans eq17765.symm
        subst uq17765
        clear eq17765
        refine lv_iload_n hx hb dX10_keepsTexts_191 rfl (lv_at hl17669 1 rfl) ?_
        refine x_ai C hTH17724 gq33 rg_137 ⟨bx17670.1, Int.lt_of_le_of_lt bx17670.2 (by decide)⟩ dX10_keepsTexts_192 (fun x17766 ex17766 bx17766 => ?_)
        refine x_V (As := [.int x17766]) (rest := [.int x17670, .ref q33]) C (a_X10_kept l K G H17724 (x17766) (x17680) (tk) hTH17724 ga0 giq m17750 m17762 m17761 g17726 (by and_intros <;> first | assumption | omega)) yo_X10_kept wM_X10_473 ⟨⟨by decide, by decide⟩, by decide, by decide⟩ (x_rv C hTH17724 (ci := 10) rfl ga0 rg_112) rfl hl17669.1 rfl (Nat.le_of_ble_eq_true rfl) dX10_keepsTexts_193 hSH17724 (AE_sub (fun _ _ => rfl) (by decide) hSH17724.1) (fun vH17767 H17767 locsH17767 pH17767 zH17767 kH17767 hSH17767 => ?_)
        obtain ⟨x17768, x17769, hvH17767, ex17769, hrH17767, m17770, g17771, mf17772, m17773, m17774, m17775, m17776, hTH17767⟩ := pH17767
        subst hvH17767
        clear zH17767
        replace m17770 := EQN.mk m17770
        have b17777 : UN (tk.toInt ≠ 0) (fun k => fI H17767 q24 k) (fun k => fI s.heap q24 k) := UN.congr (fun j => fI_kept (x_lt hTH17724 kH17767 gq24 (by decide))) b17727
        have b17778 : UN (tk.toInt ≠ 0) (fun k => fI H17767 q25 k) (fun k => fI s.heap q25 k) := UN.congr (fun j => fI_kept (x_lt hTH17724 kH17767 gq25 (by decide))) b17728
        have b17779 : UN (tk.toInt ≠ 0) (fun k => fI H17767 q26 k) (fun k => fI s.heap q26 k) := UN.congr (fun j => fI_kept (x_lt hTH17724 kH17767 gq26 (by decide))) b17729
        have b17780 : UN (tk.toInt ≠ 0) (fun k => fI H17767 q27 k) (fun k => fI s.heap q27 k) := UN.congr (fun j => fI_kept (x_lt hTH17724 kH17767 gq27 (by decide))) b17730
        have b17781 : UN (tk.toInt ≠ 0) (fun k => fI H17767 q28 k) (fun k => fI s.heap q28 k) := UN.congr (fun j => fI_kept (x_lt hTH17724 kH17767 gq28 (by decide))) b17731
        have b17782 : UN (tk.toInt ≠ 0) (fun k => fI H17767 q29 k) (fun k => fI s.heap q29 k) := UN.congr (fun j => fI_kept (x_lt hTH17724 kH17767 gq29 (by decide))) b17732
        have b17783 : UN (tk.toInt ≠ 0) (fun k => fI H17767 q30 k) (fun k => fI s.heap q30 k) := UN.congr (fun j => fI_kept (x_lt hTH17724 kH17767 gq30 (by decide))) b17733
        have b17784 : UN (tk.toInt ≠ 0) (fun k => fI H17767 q31 k) (fun k => fI s.heap q31 k) := UN.congr (fun j => fI_kept (x_lt hTH17724 kH17767 gq31 (by decide))) b17734
        have b17785 : UN (tk.toInt ≠ 0) (fun k => fI H17767 q32 k) (fun k => fI s.heap q32 k) := UN.congr (fun j => fI_kept (x_lt hTH17724 kH17767 gq32 (by decide))) b17735
        have b17786 : UN (tk.toInt ≠ 0) (fun k => fI H17767 q33 k) (fun k => fI s.heap q33 k) := UN.congr (fun j => fI_kept (x_lt hTH17724 kH17767 gq33 (by decide))) b17736
        have m17787 := (m17763).trans (fI_kept (x_lt hTH17724 kH17767 gq32 (by decide))).symm
        have m17788 := (ex17766).trans (fI_kept (x_lt hTH17724 kH17767 gq33 (by decide))).symm
        have m17789 := (m17750).trans (MF.r mf17772 (k := 73) (by decide) (by decide)).symm
        have m17790 := (m17751).trans (MF.r mf17772 (k := 24) (by decide) (by decide)).symm
        have m17791 := (m17752).trans (MF.r mf17772 (k := 25) (by decide) (by decide)).symm
        have m17792 := (m17753).trans (MF.r mf17772 (k := 26) (by decide) (by decide)).symm
        have m17793 := (m17754).trans (MF.r mf17772 (k := 27) (by decide) (by decide)).symm
        have m17794 := (m17755).trans (MF.r mf17772 (k := 28) (by decide) (by decide)).symm
        have m17795 := (m17756).trans (MF.r mf17772 (k := 29) (by decide) (by decide)).symm
        have m17796 := (m17757).trans (MF.r mf17772 (k := 30) (by decide) (by decide)).symm
        have m17797 := (m17758).trans (MF.r mf17772 (k := 31) (by decide) (by decide)).symm
        have m17798 := (m17759).trans (MF.r mf17772 (k := 32) (by decide) (by decide)).symm
        have m17799 := (m17760).trans (MF.r mf17772 (k := 33) (by decide) (by decide)).symm
        have m17800 := (m17761).trans (MF.i mf17772 (k := 71) (by decide) (by decide)).symm
        have mf17801 : MF K s.heap H17767 a0 [72] := MF.trans mf17725 mf17772 (by decide)
        have bx17769 := ty_fi (x := x17769) (k := 72) ex17769 hTH17767 ga0 rg_112 rfl
        have ce_x17680 := i_cl (x := x17680) bx17680.1
        have e_ : x17680.toNatClampNeg = 9587 + 2 * x17670.toNatClampNeg := by omega
        have k3e_ := m17775
        rw [e_] at k3e_
        have b17802 : UN (tk.toInt = 0) (fun k => fI H17767 iq k) (fun k => fI s.heap iq k) := UN.tr m17776 b17737
        have b17803 : FB (fun k => fI H17767 iq k) (fun k => fI s.heap iq k) (8908) := FB.wr b17738 k3e_ (fun j hj => Nat.ne_of_lt (Nat.lt_of_lt_of_le hj (Nat.le_trans (by decide : 8908 ≤ 9587) (Nat.le_add_right _ _))))
        have b17804 : EQ (fun k => fI H17767 q24 k) (fun k => fI H17767 iq k) (8908) (1) (6) := EQ.wr (EQ.congr (w1 := fun k => fI H17724 iq k) (fun j => fI_kept (x_lt hTH17724 kH17767 gq24 (by decide))) (fun _ => rfl) b17739) k3e_ (fun j hj => nE_8908_1_6_9587_2 hj)
        have b17805 : EQ (fun k => fI H17767 q25 k) (fun k => fI H17767 iq k) (8914) (7) (96) := EQ.wr (EQ.congr (w1 := fun k => fI H17724 iq k) (fun j => fI_kept (x_lt hTH17724 kH17767 gq25 (by decide))) (fun _ => rfl) b17740) k3e_ (fun j hj => nE_8914_7_96_9587_2 hj)
        have b17806 : EQ (fun k => fI H17767 q26 k) (fun k => fI H17767 iq k) (8915) (7) (96) := EQ.wr (EQ.congr (w1 := fun k => fI H17724 iq k) (fun j => fI_kept (x_lt hTH17724 kH17767 gq26 (by decide))) (fun _ => rfl) b17741) k3e_ (fun j hj => nE_8915_7_96_9587_2 hj)
        have b17807 : EQ (fun k => fI H17767 q27 k) (fun k => fI H17767 iq k) (8916) (7) (96) := EQ.wr (EQ.congr (w1 := fun k => fI H17724 iq k) (fun j => fI_kept (x_lt hTH17724 kH17767 gq27 (by decide))) (fun _ => rfl) b17742) k3e_ (fun j hj => nE_8916_7_96_9587_2 hj)
        have b17808 : EQ (fun k => fI H17767 q28 k) (fun k => fI H17767 iq k) (8917) (7) (96) := EQ.wr (EQ.congr (w1 := fun k => fI H17724 iq k) (fun j => fI_kept (x_lt hTH17724 kH17767 gq28 (by decide))) (fun _ => rfl) b17743) k3e_ (fun j hj => nE_8917_7_96_9587_2 hj)
        have b17809 : EQ (fun k => fI H17767 q29 k) (fun k => fI H17767 iq k) (8918) (7) (96) := EQ.wr (EQ.congr (w1 := fun k => fI H17724 iq k) (fun j => fI_kept (x_lt hTH17724 kH17767 gq29 (by decide))) (fun _ => rfl) b17744) k3e_ (fun j hj => nE_8918_7_96_9587_2 hj)
        have b17810 : EQ (fun k => fI H17767 q30 k) (fun k => fI H17767 iq k) (8919) (7) (96) := EQ.wr (EQ.congr (w1 := fun k => fI H17724 iq k) (fun j => fI_kept (x_lt hTH17724 kH17767 gq30 (by decide))) (fun _ => rfl) b17745) k3e_ (fun j hj => nE_8919_7_96_9587_2 hj)
        have b17811 : EQ (fun k => fI H17767 q31 k) (fun k => fI H17767 iq k) (8920) (7) (96) := EQ.wr (EQ.congr (w1 := fun k => fI H17724 iq k) (fun j => fI_kept (x_lt hTH17724 kH17767 gq31 (by decide))) (fun _ => rfl) b17746) k3e_ (fun j hj => nE_8920_7_96_9587_2 hj)
        have b17812 : EQ (fun k => fI H17767 q32 k) (fun k => fI H17767 iq k) (9586) (2) (x17670.toNatClampNeg + 1) := EQ.wr (EQ.congr (w1 := fun k => fI H17724 iq k) (fun j => fI_kept (x_lt hTH17724 kH17767 gq32 (by decide))) (fun _ => rfl) b17747) k3e_ (fun j hj => nE_9586_2_i1_9587_2 hj)
        have b17813 : EQ (fun k => fI H17767 q33 k) (fun k => fI H17767 iq k) (9587) (2) (x17670.toNatClampNeg) := EQ.wr (EQ.congr (w1 := fun k => fI H17724 iq k) (fun j => fI_kept (x_lt hTH17724 kH17767 gq33 (by decide))) (fun _ => rfl) b17748) k3e_ (fun j hj => nE_9587_2_i_9587_2 hj)
        clear b17727 b17728 b17729 b17730 b17731 b17732 b17733 b17734 b17735 b17736 b17737 b17738 b17739 b17740 b17741 b17742 b17743 b17744 b17745 b17746 b17747 b17748 ex17766 m17750 m17751 m17752 m17753 m17754 m17755 m17756 m17757 m17758 m17759 m17760 m17761 m17762 m17763
        clear m17775 m17776 k3e_ e_
        refine W.eq (g2 := F0 m 196 ls17668 [.int x17768, .int x17670, .ref q33]) rfl ?_
        refine x_iast C hTH17767 hSH17767 gq33 rg_137 bx17670.1 (Int.lt_of_le_of_lt bx17670.2 (by decide)) (i_rng x17768) (AE_in gq33 (by decide)) dX10_keepsTexts_196 (fun H17814 locsH17814 hTH17814 hSH17814 wH17814 => ?_)
        have mf17815 : MF K s.heap H17814 a0 [72] := MF.arr wH17814 (G_ne ga0 gq33 (by decide)) mf17801
        have g17816 : WD (avw K H17814 a0) := WD.congr (fun k hk j => av_arr hTH17767 ga0 wH17814 gq33 (by decide) (WD_ok 137 (by decide) k hk)) g17771
        have b17817 : UN (tk.toInt ≠ 0) (fun k => fI H17814 q24 k) (fun k => fI s.heap q24 k) := UN.congr (fun j => Wr.neI wH17814 (Or.inl (G_ne gq24 gq33 (by decide)))) b17777
        have b17818 : UN (tk.toInt ≠ 0) (fun k => fI H17814 q25 k) (fun k => fI s.heap q25 k) := UN.congr (fun j => Wr.neI wH17814 (Or.inl (G_ne gq25 gq33 (by decide)))) b17778
        have b17819 : UN (tk.toInt ≠ 0) (fun k => fI H17814 q26 k) (fun k => fI s.heap q26 k) := UN.congr (fun j => Wr.neI wH17814 (Or.inl (G_ne gq26 gq33 (by decide)))) b17779
        have b17820 : UN (tk.toInt ≠ 0) (fun k => fI H17814 q27 k) (fun k => fI s.heap q27 k) := UN.congr (fun j => Wr.neI wH17814 (Or.inl (G_ne gq27 gq33 (by decide)))) b17780
        have b17821 : UN (tk.toInt ≠ 0) (fun k => fI H17814 q28 k) (fun k => fI s.heap q28 k) := UN.congr (fun j => Wr.neI wH17814 (Or.inl (G_ne gq28 gq33 (by decide)))) b17781
        have b17822 : UN (tk.toInt ≠ 0) (fun k => fI H17814 q29 k) (fun k => fI s.heap q29 k) := UN.congr (fun j => Wr.neI wH17814 (Or.inl (G_ne gq29 gq33 (by decide)))) b17782
        have b17823 : UN (tk.toInt ≠ 0) (fun k => fI H17814 q30 k) (fun k => fI s.heap q30 k) := UN.congr (fun j => Wr.neI wH17814 (Or.inl (G_ne gq30 gq33 (by decide)))) b17783
        have b17824 : UN (tk.toInt ≠ 0) (fun k => fI H17814 q31 k) (fun k => fI s.heap q31 k) := UN.congr (fun j => Wr.neI wH17814 (Or.inl (G_ne gq31 gq33 (by decide)))) b17784
        have b17825 : UN (tk.toInt ≠ 0) (fun k => fI H17814 q32 k) (fun k => fI s.heap q32 k) := UN.congr (fun j => Wr.neI wH17814 (Or.inl (G_ne gq32 gq33 (by decide)))) b17785
        have b17826 : UN (tk.toInt ≠ 0) (fun k => fI H17814 q33 k) (fun k => fI s.heap q33 k) := UN.st b17786 (i := x17670.toNatClampNeg) (fun hc => (m17774 hc).trans m17788) (Wr.I wH17814) (fun j hj => Wr.neI wH17814 (Or.inr hj))
        have b17827 : UN (tk.toInt = 0) (fun k => fI H17814 iq k) (fun k => fI s.heap iq k) := UN.congr (fun j => Wr.neI wH17814 (Or.inl (G_ne giq gq33 (by decide)))) b17802
        have b17828 : FB (fun k => fI H17814 iq k) (fun k => fI s.heap iq k) (8908) := FB.congr (fun j => Wr.neI wH17814 (Or.inl (G_ne giq gq33 (by decide)))) b17803
        have b17829 : EQ (fun k => fI H17814 q24 k) (fun k => fI H17814 iq k) (8908) (1) (6) := EQ.congr (fun j => Wr.neI wH17814 (Or.inl (G_ne gq24 gq33 (by decide)))) (fun j => Wr.neI wH17814 (Or.inl (G_ne giq gq33 (by decide)))) b17804
        have b17830 : EQ (fun k => fI H17814 q25 k) (fun k => fI H17814 iq k) (8914) (7) (96) := EQ.congr (fun j => Wr.neI wH17814 (Or.inl (G_ne gq25 gq33 (by decide)))) (fun j => Wr.neI wH17814 (Or.inl (G_ne giq gq33 (by decide)))) b17805
        have b17831 : EQ (fun k => fI H17814 q26 k) (fun k => fI H17814 iq k) (8915) (7) (96) := EQ.congr (fun j => Wr.neI wH17814 (Or.inl (G_ne gq26 gq33 (by decide)))) (fun j => Wr.neI wH17814 (Or.inl (G_ne giq gq33 (by decide)))) b17806
        have b17832 : EQ (fun k => fI H17814 q27 k) (fun k => fI H17814 iq k) (8916) (7) (96) := EQ.congr (fun j => Wr.neI wH17814 (Or.inl (G_ne gq27 gq33 (by decide)))) (fun j => Wr.neI wH17814 (Or.inl (G_ne giq gq33 (by decide)))) b17807
        have b17833 : EQ (fun k => fI H17814 q28 k) (fun k => fI H17814 iq k) (8917) (7) (96) := EQ.congr (fun j => Wr.neI wH17814 (Or.inl (G_ne gq28 gq33 (by decide)))) (fun j => Wr.neI wH17814 (Or.inl (G_ne giq gq33 (by decide)))) b17808
        have b17834 : EQ (fun k => fI H17814 q29 k) (fun k => fI H17814 iq k) (8918) (7) (96) := EQ.congr (fun j => Wr.neI wH17814 (Or.inl (G_ne gq29 gq33 (by decide)))) (fun j => Wr.neI wH17814 (Or.inl (G_ne giq gq33 (by decide)))) b17809
        have b17835 : EQ (fun k => fI H17814 q30 k) (fun k => fI H17814 iq k) (8919) (7) (96) := EQ.congr (fun j => Wr.neI wH17814 (Or.inl (G_ne gq30 gq33 (by decide)))) (fun j => Wr.neI wH17814 (Or.inl (G_ne giq gq33 (by decide)))) b17810
        have b17836 : EQ (fun k => fI H17814 q31 k) (fun k => fI H17814 iq k) (8920) (7) (96) := EQ.congr (fun j => Wr.neI wH17814 (Or.inl (G_ne gq31 gq33 (by decide)))) (fun j => Wr.neI wH17814 (Or.inl (G_ne giq gq33 (by decide)))) b17811
        have b17837 : EQ (fun k => fI H17814 q32 k) (fun k => fI H17814 iq k) (9586) (2) (x17670.toNatClampNeg + 1) := EQ.congr (fun j => Wr.neI wH17814 (Or.inl (G_ne gq32 gq33 (by decide)))) (fun j => Wr.neI wH17814 (Or.inl (G_ne giq gq33 (by decide)))) b17812
        have b17838 : EQ (fun k => fI H17814 q33 k) (fun k => fI H17814 iq k) (9587) (2) (x17670.toNatClampNeg + 1) := EQ.st b17813 (i := x17670.toNatClampNeg) (t := x17680.toNatClampNeg) (by omega) m17773 (by omega) (Wr.I wH17814) (fun j hj => Wr.neI wH17814 (Or.inr hj)) (fun j => Wr.neI wH17814 (Or.inl (G_ne giq gq33 (by decide))))
        have m17839 := m17787.trans (Wr.neI wH17814 (Or.inl (G_ne gq32 gq33 (by decide)))).symm
        have m17841 := m17770.trans (Wr.neR wH17814 (Or.inl (G_ne ga0 gq33 (by decide)))).symm
        have m17842 := m17790.trans (Wr.neR wH17814 (Or.inl (G_ne ga0 gq33 (by decide)))).symm
        have m17843 := m17791.trans (Wr.neR wH17814 (Or.inl (G_ne ga0 gq33 (by decide)))).symm
        have m17844 := m17792.trans (Wr.neR wH17814 (Or.inl (G_ne ga0 gq33 (by decide)))).symm
        have m17845 := m17793.trans (Wr.neR wH17814 (Or.inl (G_ne ga0 gq33 (by decide)))).symm
        have m17846 := m17794.trans (Wr.neR wH17814 (Or.inl (G_ne ga0 gq33 (by decide)))).symm
        have m17847 := m17795.trans (Wr.neR wH17814 (Or.inl (G_ne ga0 gq33 (by decide)))).symm
        have m17848 := m17796.trans (Wr.neR wH17814 (Or.inl (G_ne ga0 gq33 (by decide)))).symm
        have m17849 := m17797.trans (Wr.neR wH17814 (Or.inl (G_ne ga0 gq33 (by decide)))).symm
        have m17850 := m17798.trans (Wr.neR wH17814 (Or.inl (G_ne ga0 gq33 (by decide)))).symm
        have m17851 := m17799.trans (Wr.neR wH17814 (Or.inl (G_ne ga0 gq33 (by decide)))).symm
        have m17852 := m17800.trans (Wr.neI wH17814 (Or.inl (G_ne ga0 gq33 (by decide)))).symm
        have m17853 := ex17769.trans (Wr.neI wH17814 (Or.inl (G_ne ga0 gq33 (by decide)))).symm
        have m17854 := Wr.I wH17814
        have m17854 := m17854.symm
        clear b17777 b17778 b17779 b17780 b17781 b17782 b17783 b17784 b17785 b17786 b17802 b17803 b17804 b17805 b17806 b17807 b17808 b17809 b17810 b17811 b17812 b17813 ex17769 g17771 hTH17767 m17770 m17787 m17788 m17790 m17791 m17792 m17793 m17794 m17795 m17796 m17797 m17798 m17799 m17800 mf17801
        obtain ⟨x17855, ex17855⟩ : ∃ y : Int32, y = x17670 + 1 := ⟨_, rfl⟩
        have tx17855 := i_add ex17855 (by omega)
        refine lv_iinc (v := x17855) (lv' := [(1, .int x17855), (0, .ref a0)]) hx hb dX10_keepsTexts_197 hl17669 (k := 1) rfl (by rw [ex17855]; rfl) (by decide) rfl (fun ls17856 hl17857 => ?_)
        refine lv_goto (tgt := 158) hx hb dX10_keepsTexts_200 (by decide) ?_
        have cl_x17855 := i_cl (x := x17855) (by omega)
        exact ih158 ls17856 H17814 locsH17814 (x17855) (x17769) (lv_sub hl17857 [1, 0] rfl) hTH17814 hSH17814 ⟨by have := i_rng x17855; omega, by have := i_rng x17855; omega⟩ bx17769 m17853 m17841 m17842 m17843 m17844 m17845 m17846 m17847 m17848 m17849 m17850 m17851 m17852 b17827 b17828 (EQ.cast b17829 (by omega)) (EQ.cast b17830 (by omega)) (EQ.cast b17831 (by omega)) (EQ.cast b17832 (by omega)) (EQ.cast b17833 (by omega)) (EQ.cast b17834 (by omega)) (EQ.cast b17835 (by omega)) (EQ.cast b17836 (by omega)) (EQ.cast b17837 (by omega)) (EQ.cast b17838 (by omega)) b17817 b17818 b17819 b17820 b17821 b17822 b17823 b17824 b17825 b17826 mf17815 g17816 (by omega) (by and_intros <;> first | assumption | omega)
  have J32 : ∀ (nf : Nat) (ls17859 : Array Slot) (H17858 : Heap) (locsH17858 : List Loc) (x17861 : Int32) (x17862 : Int32), lv_has ls17859 2 [(0, .ref a0), (1, .int x17861)] → TY K G H17858 → va_S (AE G [112, 162, 128, 129, 130, 131, 132, 133, 134, 135, 136, 137] s.heap.size) s.heap H17858 locsH17858 → (0 ≤ x17861.toInt ∧ x17861.toInt ≤ 96) → (0 ≤ x17862.toInt ∧ x17862.toInt ≤ 16400) → (x17862 = fI H17858 a0 (K.1.2 10 72)) → (EQN iq (fR H17858 a0 (K.1.2 10 73))) → (EQN q24 (fR H17858 a0 (K.1.2 10 24))) → (EQN q25 (fR H17858 a0 (K.1.2 10 25))) → (EQN q26 (fR H17858 a0 (K.1.2 10 26))) → (EQN q27 (fR H17858 a0 (K.1.2 10 27))) → (EQN q28 (fR H17858 a0 (K.1.2 10 28))) → (EQN q29 (fR H17858 a0 (K.1.2 10 29))) → (EQN q30 (fR H17858 a0 (K.1.2 10 30))) → (EQN q31 (fR H17858 a0 (K.1.2 10 31))) → (EQN q32 (fR H17858 a0 (K.1.2 10 32))) → (EQN q33 (fR H17858 a0 (K.1.2 10 33))) → (tk = fI H17858 a0 (K.1.2 10 71)) → (UN (tk.toInt = 0) (fun k => fI H17858 iq k) (fun k => fI s.heap iq k)) → (FB (fun k => fI H17858 iq k) (fun k => fI s.heap iq k) (8908)) → (EQ (fun k => fI H17858 q24 k) (fun k => fI H17858 iq k) (8908) (1) (6)) → (EQ (fun k => fI H17858 q25 k) (fun k => fI H17858 iq k) (8914) (7) (x17861.toNatClampNeg)) → (EQ (fun k => fI H17858 q26 k) (fun k => fI H17858 iq k) (8915) (7) (x17861.toNatClampNeg)) → (EQ (fun k => fI H17858 q27 k) (fun k => fI H17858 iq k) (8916) (7) (x17861.toNatClampNeg)) → (EQ (fun k => fI H17858 q28 k) (fun k => fI H17858 iq k) (8917) (7) (x17861.toNatClampNeg)) → (EQ (fun k => fI H17858 q29 k) (fun k => fI H17858 iq k) (8918) (7) (x17861.toNatClampNeg)) → (EQ (fun k => fI H17858 q30 k) (fun k => fI H17858 iq k) (8919) (7) (x17861.toNatClampNeg)) → (EQ (fun k => fI H17858 q31 k) (fun k => fI H17858 iq k) (8920) (7) (x17861.toNatClampNeg)) → (EQ (fun k => fI H17858 q32 k) (fun k => fI H17858 iq k) (9586) (2) (0)) → (EQ (fun k => fI H17858 q33 k) (fun k => fI H17858 iq k) (9587) (2) (0)) → (UN (tk.toInt ≠ 0) (fun k => fI H17858 q24 k) (fun k => fI s.heap q24 k)) → (UN (tk.toInt ≠ 0) (fun k => fI H17858 q25 k) (fun k => fI s.heap q25 k)) → (UN (tk.toInt ≠ 0) (fun k => fI H17858 q26 k) (fun k => fI s.heap q26 k)) → (UN (tk.toInt ≠ 0) (fun k => fI H17858 q27 k) (fun k => fI s.heap q27 k)) → (UN (tk.toInt ≠ 0) (fun k => fI H17858 q28 k) (fun k => fI s.heap q28 k)) → (UN (tk.toInt ≠ 0) (fun k => fI H17858 q29 k) (fun k => fI s.heap q29 k)) → (UN (tk.toInt ≠ 0) (fun k => fI H17858 q30 k) (fun k => fI s.heap q30 k)) → (UN (tk.toInt ≠ 0) (fun k => fI H17858 q31 k) (fun k => fI s.heap q31 k)) → (UN (tk.toInt ≠ 0) (fun k => fI H17858 q32 k) (fun k => fI s.heap q32 k)) → (UN (tk.toInt ≠ 0) (fun k => fI H17858 q33 k) (fun k => fI s.heap q33 k)) → (MF K s.heap H17858 a0 [72]) → (WD (avw K H17858 a0)) → (96 - x17861.toInt < (nf : Int)) → (x17862.toInt = 8914 + 7 * x17861.toInt) → W p l e ({ frames := 1, cells := 0, slots := 0, locals := 21 } : Room) s m (([.ref a0] : List Value).toArray) below meth c H17858 locsH17858 0 0 Q (F0 m 32 ls17859 []) := by
    intro nf
    induction nf with
    | zero =>
      intro ls17859 H17858 locsH17858 x17861 x17862 hl17860 hTH17858 hSH17858 bx17861 bx17862 ex17862 cy17863_0 cy17863_1 cy17863_2 cy17863_3 cy17863_4 cy17863_5 cy17863_6 cy17863_7 cy17863_8 cy17863_9 cy17863_10 cy17863_11 by17863_ui by17863_fb by17863_e24 by17863_e25 by17863_e26 by17863_e27 by17863_e28 by17863_e29 by17863_e30 by17863_e31 by17863_e32 by17863_e33 by17863_u24 by17863_u25 by17863_u26 by17863_u27 by17863_u28 by17863_u29 by17863_u30 by17863_u31 by17863_u32 by17863_u33 mfy17863 gy17863_WD hm32 iv32
      exfalso
      omega
    | succ nf ih32 =>
      intro ls17859 H17858 locsH17858 x17861 x17862 hl17860 hTH17858 hSH17858 bx17861 bx17862 ex17862 cy17863_0 cy17863_1 cy17863_2 cy17863_3 cy17863_4 cy17863_5 cy17863_6 cy17863_7 cy17863_8 cy17863_9 cy17863_10 cy17863_11 by17863_ui by17863_fb by17863_e24 by17863_e25 by17863_e26 by17863_e27 by17863_e28 by17863_e29 by17863_e30 by17863_e31 by17863_e32 by17863_e33 by17863_u24 by17863_u25 by17863_u26 by17863_u27 by17863_u28 by17863_u29 by17863_u30 by17863_u31 by17863_u32 by17863_u33 mfy17863 gy17863_WD hm32 iv32
      refine lv_iload_n hx hb dX10_keepsTexts_32 rfl (lv_at hl17860 1 rfl) ?_
      refine lv_bipush (v := 96) hx hb dX10_keepsTexts_33 (by decide) ?_
      refine lv_icmp_ge (tgt := 156) hx hb dX10_keepsTexts_35 (by decide) (fun c17864 => ?_) (fun c17864 => ?_)
      · have k17865 := i_le c17864
        refine lv_iconst (v := 0) hx hb dX10_keepsTexts_156 (by decide) ?_
        refine lv_istore_n (lv' := [(1, .int 0), (0, .ref a0)]) hx hb dX10_keepsTexts_157 rfl hl17860 (by decide) rfl (fun ls17866 hl17867 => ?_)
        have cl00 : (0 : Int32).toNatClampNeg = 0 := rfl
        have cl_x17861 := i_cl (x := x17861) bx17861.1
        exact J158 ((3000 - (0 : Int32).toInt).toNat + 1) ls17866 H17858 locsH17858 (0) (x17862) (lv_sub hl17867 [1, 0] rfl) hTH17858 hSH17858 (by decide) bx17862 ex17862 cy17863_0 cy17863_1 cy17863_2 cy17863_3 cy17863_4 cy17863_5 cy17863_6 cy17863_7 cy17863_8 cy17863_9 cy17863_10 cy17863_11 by17863_ui by17863_fb (EQ.cast by17863_e24 (by omega)) (EQ.cast by17863_e25 (by omega)) (EQ.cast by17863_e26 (by omega)) (EQ.cast by17863_e27 (by omega)) (EQ.cast by17863_e28 (by omega)) (EQ.cast by17863_e29 (by omega)) (EQ.cast by17863_e30 (by omega)) (EQ.cast by17863_e31 (by omega)) (EQ.cast by17863_e32 (by omega)) (EQ.cast by17863_e33 (by omega)) by17863_u24 by17863_u25 by17863_u26 by17863_u27 by17863_u28 by17863_u29 by17863_u30 by17863_u31 by17863_u32 by17863_u33 mfy17863 gy17863_WD (by omega) (by and_intros <;> first | assumption | omega)
      · have k17865 := i_nle c17864
        refine lv_aload_n hx hb dX10_keepsTexts_38 rfl (lv_at hl17860 0 rfl) ?_
        refine x_gr C hTH17858 (ci := 10) (k := 25) rfl inX10 (by decide) wF_X10_62 ga0 rg_112 rfl dX10_keepsTexts_39 (fun q17868 eq17868 gq17868 => ?_)
        have uq17868 : q25 = q17868 := (cy17863_2).trans eq17868.symm
        subst uq17868
        clear eq17868
        refine lv_iload_n hx hb dX10_keepsTexts_42 rfl (lv_at hl17860 1 rfl) ?_
        refine lv_aload_n hx hb dX10_keepsTexts_43 rfl (lv_at hl17860 0 rfl) ?_
        refine lv_aload_n hx hb dX10_keepsTexts_44 rfl (lv_at hl17860 0 rfl) ?_
        refine x_gr C hTH17858 (ci := 10) (k := 25) rfl inX10 (by decide) wF_X10_62 ga0 rg_112 rfl dX10_keepsTexts_45 (fun q17869 eq17869 gq17869 => ?_)
        have uq17869 : q25 = q17869 := (cy17863_2).trans eq17869.symm
        subst uq17869
        clear eq17869
        refine lv_iload_n hx hb dX10_keepsTexts_48 rfl (lv_at hl17860 1 rfl) ?_
        refine x_ai C hTH17858 gq25 rg_129 ⟨bx17861.1, Int.lt_of_le_of_lt bx17861.2 (by decide)⟩ dX10_keepsTexts_49 (fun x17870 ex17870 bx17870 => ?_)
        refine x_V (As := [.int x17870]) (rest := [.int x17861, .ref q25]) C (a_X10_kept l K G H17858 (x17870) (x17862) (tk) hTH17858 ga0 giq cy17863_0 ex17862 cy17863_11 gy17863_WD (by and_intros <;> first | assumption | omega)) yo_X10_kept wM_X10_473 ⟨⟨by decide, by decide⟩, by decide, by decide⟩ (x_rv C hTH17858 (ci := 10) rfl ga0 rg_112) rfl hl17860.1 rfl (Nat.le_of_ble_eq_true rfl) dX10_keepsTexts_50 hSH17858 (AE_sub (fun _ _ => rfl) (by decide) hSH17858.1) (fun vH17871 H17871 locsH17871 pH17871 zH17871 kH17871 hSH17871 => ?_)
        obtain ⟨x17872, x17873, hvH17871, ex17873, hrH17871, m17874, g17875, mf17876, m17877, m17878, m17879, m17880, hTH17871⟩ := pH17871
        subst hvH17871
        clear zH17871
        replace m17874 := EQN.mk m17874
        have b17881 : UN (tk.toInt ≠ 0) (fun k => fI H17871 q24 k) (fun k => fI s.heap q24 k) := UN.congr (fun j => fI_kept (x_lt hTH17858 kH17871 gq24 (by decide))) by17863_u24
        have b17882 : UN (tk.toInt ≠ 0) (fun k => fI H17871 q25 k) (fun k => fI s.heap q25 k) := UN.congr (fun j => fI_kept (x_lt hTH17858 kH17871 gq25 (by decide))) by17863_u25
        have b17883 : UN (tk.toInt ≠ 0) (fun k => fI H17871 q26 k) (fun k => fI s.heap q26 k) := UN.congr (fun j => fI_kept (x_lt hTH17858 kH17871 gq26 (by decide))) by17863_u26
        have b17884 : UN (tk.toInt ≠ 0) (fun k => fI H17871 q27 k) (fun k => fI s.heap q27 k) := UN.congr (fun j => fI_kept (x_lt hTH17858 kH17871 gq27 (by decide))) by17863_u27
        have b17885 : UN (tk.toInt ≠ 0) (fun k => fI H17871 q28 k) (fun k => fI s.heap q28 k) := UN.congr (fun j => fI_kept (x_lt hTH17858 kH17871 gq28 (by decide))) by17863_u28
        have b17886 : UN (tk.toInt ≠ 0) (fun k => fI H17871 q29 k) (fun k => fI s.heap q29 k) := UN.congr (fun j => fI_kept (x_lt hTH17858 kH17871 gq29 (by decide))) by17863_u29
        have b17887 : UN (tk.toInt ≠ 0) (fun k => fI H17871 q30 k) (fun k => fI s.heap q30 k) := UN.congr (fun j => fI_kept (x_lt hTH17858 kH17871 gq30 (by decide))) by17863_u30
        have b17888 : UN (tk.toInt ≠ 0) (fun k => fI H17871 q31 k) (fun k => fI s.heap q31 k) := UN.congr (fun j => fI_kept (x_lt hTH17858 kH17871 gq31 (by decide))) by17863_u31
        have b17889 : UN (tk.toInt ≠ 0) (fun k => fI H17871 q32 k) (fun k => fI s.heap q32 k) := UN.congr (fun j => fI_kept (x_lt hTH17858 kH17871 gq32 (by decide))) by17863_u32
        have b17890 : UN (tk.toInt ≠ 0) (fun k => fI H17871 q33 k) (fun k => fI s.heap q33 k) := UN.congr (fun j => fI_kept (x_lt hTH17858 kH17871 gq33 (by decide))) by17863_u33
        have m17891 := (ex17870).trans (fI_kept (x_lt hTH17858 kH17871 gq25 (by decide))).symm
        have m17892 := (cy17863_0).trans (MF.r mf17876 (k := 73) (by decide) (by decide)).symm
        have m17893 := (cy17863_1).trans (MF.r mf17876 (k := 24) (by decide) (by decide)).symm
        have m17894 := (cy17863_2).trans (MF.r mf17876 (k := 25) (by decide) (by decide)).symm
        have m17895 := (cy17863_3).trans (MF.r mf17876 (k := 26) (by decide) (by decide)).symm
        have m17896 := (cy17863_4).trans (MF.r mf17876 (k := 27) (by decide) (by decide)).symm
        have m17897 := (cy17863_5).trans (MF.r mf17876 (k := 28) (by decide) (by decide)).symm
        have m17898 := (cy17863_6).trans (MF.r mf17876 (k := 29) (by decide) (by decide)).symm
        have m17899 := (cy17863_7).trans (MF.r mf17876 (k := 30) (by decide) (by decide)).symm
        have m17900 := (cy17863_8).trans (MF.r mf17876 (k := 31) (by decide) (by decide)).symm
        have m17901 := (cy17863_9).trans (MF.r mf17876 (k := 32) (by decide) (by decide)).symm
        have m17902 := (cy17863_10).trans (MF.r mf17876 (k := 33) (by decide) (by decide)).symm
        have m17903 := (cy17863_11).trans (MF.i mf17876 (k := 71) (by decide) (by decide)).symm
        have mf17904 : MF K s.heap H17871 a0 [72] := MF.trans mfy17863 mf17876 (by decide)
        have bx17873 := ty_fi (x := x17873) (k := 72) ex17873 hTH17871 ga0 rg_112 rfl
        have ce_x17861 := i_cl (x := x17861) bx17861.1
        have ce_x17862 := i_cl (x := x17862) bx17862.1
        have e_ : x17862.toNatClampNeg = 8914 + 7 * x17861.toNatClampNeg := by omega
        have k3e_ := m17879
        rw [e_] at k3e_
        have b17905 : UN (tk.toInt = 0) (fun k => fI H17871 iq k) (fun k => fI s.heap iq k) := UN.tr m17880 by17863_ui
        have b17906 : FB (fun k => fI H17871 iq k) (fun k => fI s.heap iq k) (8908) := FB.wr by17863_fb k3e_ (fun j hj => Nat.ne_of_lt (Nat.lt_of_lt_of_le hj (Nat.le_trans (by decide : 8908 ≤ 8914) (Nat.le_add_right _ _))))
        have b17907 : EQ (fun k => fI H17871 q24 k) (fun k => fI H17871 iq k) (8908) (1) (6) := EQ.wr (EQ.congr (w1 := fun k => fI H17858 iq k) (fun j => fI_kept (x_lt hTH17858 kH17871 gq24 (by decide))) (fun _ => rfl) by17863_e24) k3e_ (fun j hj => nE_8908_1_6_8914_7 hj)
        have b17908 : EQ (fun k => fI H17871 q25 k) (fun k => fI H17871 iq k) (8914) (7) (x17861.toNatClampNeg) := EQ.wr (EQ.congr (w1 := fun k => fI H17858 iq k) (fun j => fI_kept (x_lt hTH17858 kH17871 gq25 (by decide))) (fun _ => rfl) by17863_e25) k3e_ (fun j hj => nE_8914_7_i_8914_7 hj)
        have b17909 : EQ (fun k => fI H17871 q26 k) (fun k => fI H17871 iq k) (8915) (7) (x17861.toNatClampNeg) := EQ.wr (EQ.congr (w1 := fun k => fI H17858 iq k) (fun j => fI_kept (x_lt hTH17858 kH17871 gq26 (by decide))) (fun _ => rfl) by17863_e26) k3e_ (fun j hj => nE_8915_7_i_8914_7 hj)
        have b17910 : EQ (fun k => fI H17871 q27 k) (fun k => fI H17871 iq k) (8916) (7) (x17861.toNatClampNeg) := EQ.wr (EQ.congr (w1 := fun k => fI H17858 iq k) (fun j => fI_kept (x_lt hTH17858 kH17871 gq27 (by decide))) (fun _ => rfl) by17863_e27) k3e_ (fun j hj => nE_8916_7_i_8914_7 hj)
        have b17911 : EQ (fun k => fI H17871 q28 k) (fun k => fI H17871 iq k) (8917) (7) (x17861.toNatClampNeg) := EQ.wr (EQ.congr (w1 := fun k => fI H17858 iq k) (fun j => fI_kept (x_lt hTH17858 kH17871 gq28 (by decide))) (fun _ => rfl) by17863_e28) k3e_ (fun j hj => nE_8917_7_i_8914_7 hj)
        have b17912 : EQ (fun k => fI H17871 q29 k) (fun k => fI H17871 iq k) (8918) (7) (x17861.toNatClampNeg) := EQ.wr (EQ.congr (w1 := fun k => fI H17858 iq k) (fun j => fI_kept (x_lt hTH17858 kH17871 gq29 (by decide))) (fun _ => rfl) by17863_e29) k3e_ (fun j hj => nE_8918_7_i_8914_7 hj)
        have b17913 : EQ (fun k => fI H17871 q30 k) (fun k => fI H17871 iq k) (8919) (7) (x17861.toNatClampNeg) := EQ.wr (EQ.congr (w1 := fun k => fI H17858 iq k) (fun j => fI_kept (x_lt hTH17858 kH17871 gq30 (by decide))) (fun _ => rfl) by17863_e30) k3e_ (fun j hj => nE_8919_7_i_8914_7 hj)
        have b17914 : EQ (fun k => fI H17871 q31 k) (fun k => fI H17871 iq k) (8920) (7) (x17861.toNatClampNeg) := EQ.wr (EQ.congr (w1 := fun k => fI H17858 iq k) (fun j => fI_kept (x_lt hTH17858 kH17871 gq31 (by decide))) (fun _ => rfl) by17863_e31) k3e_ (fun j hj => nE_8920_7_i_8914_7 hj)
        have b17915 : EQ (fun k => fI H17871 q32 k) (fun k => fI H17871 iq k) (9586) (2) (0) := EQ.wr (EQ.congr (w1 := fun k => fI H17858 iq k) (fun j => fI_kept (x_lt hTH17858 kH17871 gq32 (by decide))) (fun _ => rfl) by17863_e32) k3e_ (fun j hj => nE_9586_2_0_8914_7 hj)
        have b17916 : EQ (fun k => fI H17871 q33 k) (fun k => fI H17871 iq k) (9587) (2) (0) := EQ.wr (EQ.congr (w1 := fun k => fI H17858 iq k) (fun j => fI_kept (x_lt hTH17858 kH17871 gq33 (by decide))) (fun _ => rfl) by17863_e33) k3e_ (fun j hj => nE_9587_2_0_8914_7 hj)
        clear by17863_e24 by17863_e25 by17863_e26 by17863_e27 by17863_e28 by17863_e29 by17863_e30 by17863_e31 by17863_e32 by17863_e33 by17863_fb by17863_u24 by17863_u25 by17863_u26 by17863_u27 by17863_u28 by17863_u29 by17863_u30 by17863_u31 by17863_u32 by17863_u33 by17863_ui cy17863_0 cy17863_1 cy17863_10 cy17863_11 cy17863_2 cy17863_3 cy17863_4 cy17863_5 cy17863_6 cy17863_7 cy17863_8 cy17863_9 ex17862 ex17870
        clear m17879 m17880 k3e_ e_
        refine W.eq (g2 := F0 m 53 ls17859 [.int x17872, .int x17861, .ref q25]) rfl ?_
        refine x_iast C hTH17871 hSH17871 gq25 rg_129 bx17861.1 (Int.lt_of_le_of_lt bx17861.2 (by decide)) (i_rng x17872) (AE_in gq25 (by decide)) dX10_keepsTexts_53 (fun H17917 locsH17917 hTH17917 hSH17917 wH17917 => ?_)
        have mf17918 : MF K s.heap H17917 a0 [72] := MF.arr wH17917 (G_ne ga0 gq25 (by decide)) mf17904
        have g17919 : WD (avw K H17917 a0) := WD.congr (fun k hk j => av_arr hTH17871 ga0 wH17917 gq25 (by decide) (WD_ok 129 (by decide) k hk)) g17875
        have b17920 : UN (tk.toInt ≠ 0) (fun k => fI H17917 q24 k) (fun k => fI s.heap q24 k) := UN.congr (fun j => Wr.neI wH17917 (Or.inl (G_ne gq24 gq25 (by decide)))) b17881
        have b17921 : UN (tk.toInt ≠ 0) (fun k => fI H17917 q25 k) (fun k => fI s.heap q25 k) := UN.st b17882 (i := x17861.toNatClampNeg) (fun hc => (m17878 hc).trans m17891) (Wr.I wH17917) (fun j hj => Wr.neI wH17917 (Or.inr hj))
        have b17922 : UN (tk.toInt ≠ 0) (fun k => fI H17917 q26 k) (fun k => fI s.heap q26 k) := UN.congr (fun j => Wr.neI wH17917 (Or.inl (G_ne gq26 gq25 (by decide)))) b17883
        have b17923 : UN (tk.toInt ≠ 0) (fun k => fI H17917 q27 k) (fun k => fI s.heap q27 k) := UN.congr (fun j => Wr.neI wH17917 (Or.inl (G_ne gq27 gq25 (by decide)))) b17884
        have b17924 : UN (tk.toInt ≠ 0) (fun k => fI H17917 q28 k) (fun k => fI s.heap q28 k) := UN.congr (fun j => Wr.neI wH17917 (Or.inl (G_ne gq28 gq25 (by decide)))) b17885
        have b17925 : UN (tk.toInt ≠ 0) (fun k => fI H17917 q29 k) (fun k => fI s.heap q29 k) := UN.congr (fun j => Wr.neI wH17917 (Or.inl (G_ne gq29 gq25 (by decide)))) b17886
        have b17926 : UN (tk.toInt ≠ 0) (fun k => fI H17917 q30 k) (fun k => fI s.heap q30 k) := UN.congr (fun j => Wr.neI wH17917 (Or.inl (G_ne gq30 gq25 (by decide)))) b17887
        have b17927 : UN (tk.toInt ≠ 0) (fun k => fI H17917 q31 k) (fun k => fI s.heap q31 k) := UN.congr (fun j => Wr.neI wH17917 (Or.inl (G_ne gq31 gq25 (by decide)))) b17888
        have b17928 : UN (tk.toInt ≠ 0) (fun k => fI H17917 q32 k) (fun k => fI s.heap q32 k) := UN.congr (fun j => Wr.neI wH17917 (Or.inl (G_ne gq32 gq25 (by decide)))) b17889
        have b17929 : UN (tk.toInt ≠ 0) (fun k => fI H17917 q33 k) (fun k => fI s.heap q33 k) := UN.congr (fun j => Wr.neI wH17917 (Or.inl (G_ne gq33 gq25 (by decide)))) b17890
        have b17930 : UN (tk.toInt = 0) (fun k => fI H17917 iq k) (fun k => fI s.heap iq k) := UN.congr (fun j => Wr.neI wH17917 (Or.inl (G_ne giq gq25 (by decide)))) b17905
        have b17931 : FB (fun k => fI H17917 iq k) (fun k => fI s.heap iq k) (8908) := FB.congr (fun j => Wr.neI wH17917 (Or.inl (G_ne giq gq25 (by decide)))) b17906
        have b17932 : EQ (fun k => fI H17917 q24 k) (fun k => fI H17917 iq k) (8908) (1) (6) := EQ.congr (fun j => Wr.neI wH17917 (Or.inl (G_ne gq24 gq25 (by decide)))) (fun j => Wr.neI wH17917 (Or.inl (G_ne giq gq25 (by decide)))) b17907
        have b17933 : EQ (fun k => fI H17917 q25 k) (fun k => fI H17917 iq k) (8914) (7) (x17861.toNatClampNeg + 1) := EQ.st b17908 (i := x17861.toNatClampNeg) (t := x17862.toNatClampNeg) (by omega) m17877 (by omega) (Wr.I wH17917) (fun j hj => Wr.neI wH17917 (Or.inr hj)) (fun j => Wr.neI wH17917 (Or.inl (G_ne giq gq25 (by decide))))
        have b17934 : EQ (fun k => fI H17917 q26 k) (fun k => fI H17917 iq k) (8915) (7) (x17861.toNatClampNeg) := EQ.congr (fun j => Wr.neI wH17917 (Or.inl (G_ne gq26 gq25 (by decide)))) (fun j => Wr.neI wH17917 (Or.inl (G_ne giq gq25 (by decide)))) b17909
        have b17935 : EQ (fun k => fI H17917 q27 k) (fun k => fI H17917 iq k) (8916) (7) (x17861.toNatClampNeg) := EQ.congr (fun j => Wr.neI wH17917 (Or.inl (G_ne gq27 gq25 (by decide)))) (fun j => Wr.neI wH17917 (Or.inl (G_ne giq gq25 (by decide)))) b17910
        have b17936 : EQ (fun k => fI H17917 q28 k) (fun k => fI H17917 iq k) (8917) (7) (x17861.toNatClampNeg) := EQ.congr (fun j => Wr.neI wH17917 (Or.inl (G_ne gq28 gq25 (by decide)))) (fun j => Wr.neI wH17917 (Or.inl (G_ne giq gq25 (by decide)))) b17911
        have b17937 : EQ (fun k => fI H17917 q29 k) (fun k => fI H17917 iq k) (8918) (7) (x17861.toNatClampNeg) := EQ.congr (fun j => Wr.neI wH17917 (Or.inl (G_ne gq29 gq25 (by decide)))) (fun j => Wr.neI wH17917 (Or.inl (G_ne giq gq25 (by decide)))) b17912
        have b17938 : EQ (fun k => fI H17917 q30 k) (fun k => fI H17917 iq k) (8919) (7) (x17861.toNatClampNeg) := EQ.congr (fun j => Wr.neI wH17917 (Or.inl (G_ne gq30 gq25 (by decide)))) (fun j => Wr.neI wH17917 (Or.inl (G_ne giq gq25 (by decide)))) b17913
        have b17939 : EQ (fun k => fI H17917 q31 k) (fun k => fI H17917 iq k) (8920) (7) (x17861.toNatClampNeg) := EQ.congr (fun j => Wr.neI wH17917 (Or.inl (G_ne gq31 gq25 (by decide)))) (fun j => Wr.neI wH17917 (Or.inl (G_ne giq gq25 (by decide)))) b17914
        have b17940 : EQ (fun k => fI H17917 q32 k) (fun k => fI H17917 iq k) (9586) (2) (0) := EQ.congr (fun j => Wr.neI wH17917 (Or.inl (G_ne gq32 gq25 (by decide)))) (fun j => Wr.neI wH17917 (Or.inl (G_ne giq gq25 (by decide)))) b17915
        have b17941 : EQ (fun k => fI H17917 q33 k) (fun k => fI H17917 iq k) (9587) (2) (0) := EQ.congr (fun j => Wr.neI wH17917 (Or.inl (G_ne gq33 gq25 (by decide)))) (fun j => Wr.neI wH17917 (Or.inl (G_ne giq gq25 (by decide)))) b17916
        have m17943 := m17874.trans (Wr.neR wH17917 (Or.inl (G_ne ga0 gq25 (by decide)))).symm
        have m17944 := m17893.trans (Wr.neR wH17917 (Or.inl (G_ne ga0 gq25 (by decide)))).symm
        have m17945 := m17894.trans (Wr.neR wH17917 (Or.inl (G_ne ga0 gq25 (by decide)))).symm
        have m17946 := m17895.trans (Wr.neR wH17917 (Or.inl (G_ne ga0 gq25 (by decide)))).symm
        have m17947 := m17896.trans (Wr.neR wH17917 (Or.inl (G_ne ga0 gq25 (by decide)))).symm
        have m17948 := m17897.trans (Wr.neR wH17917 (Or.inl (G_ne ga0 gq25 (by decide)))).symm
        have m17949 := m17898.trans (Wr.neR wH17917 (Or.inl (G_ne ga0 gq25 (by decide)))).symm
        have m17950 := m17899.trans (Wr.neR wH17917 (Or.inl (G_ne ga0 gq25 (by decide)))).symm
        have m17951 := m17900.trans (Wr.neR wH17917 (Or.inl (G_ne ga0 gq25 (by decide)))).symm
        have m17952 := m17901.trans (Wr.neR wH17917 (Or.inl (G_ne ga0 gq25 (by decide)))).symm
        have m17953 := m17902.trans (Wr.neR wH17917 (Or.inl (G_ne ga0 gq25 (by decide)))).symm
        have m17954 := m17903.trans (Wr.neI wH17917 (Or.inl (G_ne ga0 gq25 (by decide)))).symm
        have m17955 := ex17873.trans (Wr.neI wH17917 (Or.inl (G_ne ga0 gq25 (by decide)))).symm
        have m17956 := Wr.I wH17917
        have m17956 := m17956.symm
        clear b17881 b17882 b17883 b17884 b17885 b17886 b17887 b17888 b17889 b17890 b17905 b17906 b17907 b17908 b17909 b17910 b17911 b17912 b17913 b17914 b17915 b17916 ex17873 g17875 hTH17871 m17874 m17891 m17893 m17894 m17895 m17896 m17897 m17898 m17899 m17900 m17901 m17902 m17903 mf17904
        refine lv_aload_n hx hb dX10_keepsTexts_54 rfl (lv_at hl17860 0 rfl) ?_
        refine x_gr C hTH17917 (ci := 10) (k := 26) rfl inX10 (by decide) wF_X10_65 ga0 rg_112 rfl dX10_keepsTexts_55 (fun q17957 eq17957 gq17957 => ?_)
        have uq17957 : q26 = q17957 := (m17946).trans eq17957.symm
        subst uq17957
        clear eq17957
        refine lv_iload_n hx hb dX10_keepsTexts_58 rfl (lv_at hl17860 1 rfl) ?_
        refine lv_aload_n hx hb dX10_keepsTexts_59 rfl (lv_at hl17860 0 rfl) ?_
        refine lv_aload_n hx hb dX10_keepsTexts_60 rfl (lv_at hl17860 0 rfl) ?_
        refine x_gr C hTH17917 (ci := 10) (k := 26) rfl inX10 (by decide) wF_X10_65 ga0 rg_112 rfl dX10_keepsTexts_61 (fun q17958 eq17958 gq17958 => ?_)
        have uq17958 : q26 = q17958 := (m17946).trans eq17958.symm
        subst uq17958
        clear eq17958
        refine lv_iload_n hx hb dX10_keepsTexts_64 rfl (lv_at hl17860 1 rfl) ?_
        refine x_ai C hTH17917 gq26 rg_130 ⟨bx17861.1, Int.lt_of_le_of_lt bx17861.2 (by decide)⟩ dX10_keepsTexts_65 (fun x17959 ex17959 bx17959 => ?_)
        refine x_V (As := [.int x17959]) (rest := [.int x17861, .ref q26]) C (a_X10_kept l K G H17917 (x17959) (x17873) (tk) hTH17917 ga0 giq m17943 m17955 m17954 g17919 (by and_intros <;> first | assumption | omega)) yo_X10_kept wM_X10_473 ⟨⟨by decide, by decide⟩, by decide, by decide⟩ (x_rv C hTH17917 (ci := 10) rfl ga0 rg_112) rfl hl17860.1 rfl (Nat.le_of_ble_eq_true rfl) dX10_keepsTexts_66 hSH17917 (AE_sub (fun _ _ => rfl) (by decide) hSH17917.1) (fun vH17960 H17960 locsH17960 pH17960 zH17960 kH17960 hSH17960 => ?_)
        obtain ⟨x17961, x17962, hvH17960, ex17962, hrH17960, m17963, g17964, mf17965, m17966, m17967, m17968, m17969, hTH17960⟩ := pH17960
        subst hvH17960
        clear zH17960
        replace m17963 := EQN.mk m17963
        have b17970 : UN (tk.toInt ≠ 0) (fun k => fI H17960 q24 k) (fun k => fI s.heap q24 k) := UN.congr (fun j => fI_kept (x_lt hTH17917 kH17960 gq24 (by decide))) b17920
        have b17971 : UN (tk.toInt ≠ 0) (fun k => fI H17960 q25 k) (fun k => fI s.heap q25 k) := UN.congr (fun j => fI_kept (x_lt hTH17917 kH17960 gq25 (by decide))) b17921
        have b17972 : UN (tk.toInt ≠ 0) (fun k => fI H17960 q26 k) (fun k => fI s.heap q26 k) := UN.congr (fun j => fI_kept (x_lt hTH17917 kH17960 gq26 (by decide))) b17922
        have b17973 : UN (tk.toInt ≠ 0) (fun k => fI H17960 q27 k) (fun k => fI s.heap q27 k) := UN.congr (fun j => fI_kept (x_lt hTH17917 kH17960 gq27 (by decide))) b17923
        have b17974 : UN (tk.toInt ≠ 0) (fun k => fI H17960 q28 k) (fun k => fI s.heap q28 k) := UN.congr (fun j => fI_kept (x_lt hTH17917 kH17960 gq28 (by decide))) b17924
        have b17975 : UN (tk.toInt ≠ 0) (fun k => fI H17960 q29 k) (fun k => fI s.heap q29 k) := UN.congr (fun j => fI_kept (x_lt hTH17917 kH17960 gq29 (by decide))) b17925
        have b17976 : UN (tk.toInt ≠ 0) (fun k => fI H17960 q30 k) (fun k => fI s.heap q30 k) := UN.congr (fun j => fI_kept (x_lt hTH17917 kH17960 gq30 (by decide))) b17926
        have b17977 : UN (tk.toInt ≠ 0) (fun k => fI H17960 q31 k) (fun k => fI s.heap q31 k) := UN.congr (fun j => fI_kept (x_lt hTH17917 kH17960 gq31 (by decide))) b17927
        have b17978 : UN (tk.toInt ≠ 0) (fun k => fI H17960 q32 k) (fun k => fI s.heap q32 k) := UN.congr (fun j => fI_kept (x_lt hTH17917 kH17960 gq32 (by decide))) b17928
        have b17979 : UN (tk.toInt ≠ 0) (fun k => fI H17960 q33 k) (fun k => fI s.heap q33 k) := UN.congr (fun j => fI_kept (x_lt hTH17917 kH17960 gq33 (by decide))) b17929
        have m17980 := (m17956).trans (fI_kept (x_lt hTH17917 kH17960 gq25 (by decide))).symm
        have m17981 := (ex17959).trans (fI_kept (x_lt hTH17917 kH17960 gq26 (by decide))).symm
        have m17982 := (m17943).trans (MF.r mf17965 (k := 73) (by decide) (by decide)).symm
        have m17983 := (m17944).trans (MF.r mf17965 (k := 24) (by decide) (by decide)).symm
        have m17984 := (m17945).trans (MF.r mf17965 (k := 25) (by decide) (by decide)).symm
        have m17985 := (m17946).trans (MF.r mf17965 (k := 26) (by decide) (by decide)).symm
        have m17986 := (m17947).trans (MF.r mf17965 (k := 27) (by decide) (by decide)).symm
        have m17987 := (m17948).trans (MF.r mf17965 (k := 28) (by decide) (by decide)).symm
        have m17988 := (m17949).trans (MF.r mf17965 (k := 29) (by decide) (by decide)).symm
        have m17989 := (m17950).trans (MF.r mf17965 (k := 30) (by decide) (by decide)).symm
        have m17990 := (m17951).trans (MF.r mf17965 (k := 31) (by decide) (by decide)).symm
        have m17991 := (m17952).trans (MF.r mf17965 (k := 32) (by decide) (by decide)).symm
        have m17992 := (m17953).trans (MF.r mf17965 (k := 33) (by decide) (by decide)).symm
        have m17993 := (m17954).trans (MF.i mf17965 (k := 71) (by decide) (by decide)).symm
        have mf17994 : MF K s.heap H17960 a0 [72] := MF.trans mf17918 mf17965 (by decide)
        have bx17962 := ty_fi (x := x17962) (k := 72) ex17962 hTH17960 ga0 rg_112 rfl
        have ce_x17873 := i_cl (x := x17873) bx17873.1
        have e_ : x17873.toNatClampNeg = 8915 + 7 * x17861.toNatClampNeg := by omega
        have k3e_ := m17968
        rw [e_] at k3e_
        have b17995 : UN (tk.toInt = 0) (fun k => fI H17960 iq k) (fun k => fI s.heap iq k) := UN.tr m17969 b17930
        have b17996 : FB (fun k => fI H17960 iq k) (fun k => fI s.heap iq k) (8908) := FB.wr b17931 k3e_ (fun j hj => Nat.ne_of_lt (Nat.lt_of_lt_of_le hj (Nat.le_trans (by decide : 8908 ≤ 8915) (Nat.le_add_right _ _))))
        have b17997 : EQ (fun k => fI H17960 q24 k) (fun k => fI H17960 iq k) (8908) (1) (6) := EQ.wr (EQ.congr (w1 := fun k => fI H17917 iq k) (fun j => fI_kept (x_lt hTH17917 kH17960 gq24 (by decide))) (fun _ => rfl) b17932) k3e_ (fun j hj => nE_8908_1_6_8915_7 hj)
        have b17998 : EQ (fun k => fI H17960 q25 k) (fun k => fI H17960 iq k) (8914) (7) (x17861.toNatClampNeg + 1) := EQ.wr (EQ.congr (w1 := fun k => fI H17917 iq k) (fun j => fI_kept (x_lt hTH17917 kH17960 gq25 (by decide))) (fun _ => rfl) b17933) k3e_ (fun j hj => nE_8914_7_i1_8915_7 hj)
        have b17999 : EQ (fun k => fI H17960 q26 k) (fun k => fI H17960 iq k) (8915) (7) (x17861.toNatClampNeg) := EQ.wr (EQ.congr (w1 := fun k => fI H17917 iq k) (fun j => fI_kept (x_lt hTH17917 kH17960 gq26 (by decide))) (fun _ => rfl) b17934) k3e_ (fun j hj => nE_8915_7_i_8915_7 hj)
        have b18000 : EQ (fun k => fI H17960 q27 k) (fun k => fI H17960 iq k) (8916) (7) (x17861.toNatClampNeg) := EQ.wr (EQ.congr (w1 := fun k => fI H17917 iq k) (fun j => fI_kept (x_lt hTH17917 kH17960 gq27 (by decide))) (fun _ => rfl) b17935) k3e_ (fun j hj => nE_8916_7_i_8915_7 hj)
        have b18001 : EQ (fun k => fI H17960 q28 k) (fun k => fI H17960 iq k) (8917) (7) (x17861.toNatClampNeg) := EQ.wr (EQ.congr (w1 := fun k => fI H17917 iq k) (fun j => fI_kept (x_lt hTH17917 kH17960 gq28 (by decide))) (fun _ => rfl) b17936) k3e_ (fun j hj => nE_8917_7_i_8915_7 hj)
        have b18002 : EQ (fun k => fI H17960 q29 k) (fun k => fI H17960 iq k) (8918) (7) (x17861.toNatClampNeg) := EQ.wr (EQ.congr (w1 := fun k => fI H17917 iq k) (fun j => fI_kept (x_lt hTH17917 kH17960 gq29 (by decide))) (fun _ => rfl) b17937) k3e_ (fun j hj => nE_8918_7_i_8915_7 hj)
        have b18003 : EQ (fun k => fI H17960 q30 k) (fun k => fI H17960 iq k) (8919) (7) (x17861.toNatClampNeg) := EQ.wr (EQ.congr (w1 := fun k => fI H17917 iq k) (fun j => fI_kept (x_lt hTH17917 kH17960 gq30 (by decide))) (fun _ => rfl) b17938) k3e_ (fun j hj => nE_8919_7_i_8915_7 hj)
        have b18004 : EQ (fun k => fI H17960 q31 k) (fun k => fI H17960 iq k) (8920) (7) (x17861.toNatClampNeg) := EQ.wr (EQ.congr (w1 := fun k => fI H17917 iq k) (fun j => fI_kept (x_lt hTH17917 kH17960 gq31 (by decide))) (fun _ => rfl) b17939) k3e_ (fun j hj => nE_8920_7_i_8915_7 hj)
        have b18005 : EQ (fun k => fI H17960 q32 k) (fun k => fI H17960 iq k) (9586) (2) (0) := EQ.wr (EQ.congr (w1 := fun k => fI H17917 iq k) (fun j => fI_kept (x_lt hTH17917 kH17960 gq32 (by decide))) (fun _ => rfl) b17940) k3e_ (fun j hj => nE_9586_2_0_8915_7 hj)
        have b18006 : EQ (fun k => fI H17960 q33 k) (fun k => fI H17960 iq k) (9587) (2) (0) := EQ.wr (EQ.congr (w1 := fun k => fI H17917 iq k) (fun j => fI_kept (x_lt hTH17917 kH17960 gq33 (by decide))) (fun _ => rfl) b17941) k3e_ (fun j hj => nE_9587_2_0_8915_7 hj)
        clear b17920 b17921 b17922 b17923 b17924 b17925 b17926 b17927 b17928 b17929 b17930 b17931 b17932 b17933 b17934 b17935 b17936 b17937 b17938 b17939 b17940 b17941 ex17959 m17943 m17944 m17945 m17946 m17947 m17948 m17949 m17950 m17951 m17952 m17953 m17954 m17955 m17956
        clear m17968 m17969 k3e_ e_
        refine W.eq (g2 := F0 m 69 ls17859 [.int x17961, .int x17861, .ref q26]) rfl ?_
        refine x_iast C hTH17960 hSH17960 gq26 rg_130 bx17861.1 (Int.lt_of_le_of_lt bx17861.2 (by decide)) (i_rng x17961) (AE_in gq26 (by decide)) dX10_keepsTexts_69 (fun H18007 locsH18007 hTH18007 hSH18007 wH18007 => ?_)
        have mf18008 : MF K s.heap H18007 a0 [72] := MF.arr wH18007 (G_ne ga0 gq26 (by decide)) mf17994
        have g18009 : WD (avw K H18007 a0) := WD.congr (fun k hk j => av_arr hTH17960 ga0 wH18007 gq26 (by decide) (WD_ok 130 (by decide) k hk)) g17964
        have b18010 : UN (tk.toInt ≠ 0) (fun k => fI H18007 q24 k) (fun k => fI s.heap q24 k) := UN.congr (fun j => Wr.neI wH18007 (Or.inl (G_ne gq24 gq26 (by decide)))) b17970
        have b18011 : UN (tk.toInt ≠ 0) (fun k => fI H18007 q25 k) (fun k => fI s.heap q25 k) := UN.congr (fun j => Wr.neI wH18007 (Or.inl (G_ne gq25 gq26 (by decide)))) b17971
        have b18012 : UN (tk.toInt ≠ 0) (fun k => fI H18007 q26 k) (fun k => fI s.heap q26 k) := UN.st b17972 (i := x17861.toNatClampNeg) (fun hc => (m17967 hc).trans m17981) (Wr.I wH18007) (fun j hj => Wr.neI wH18007 (Or.inr hj))
        have b18013 : UN (tk.toInt ≠ 0) (fun k => fI H18007 q27 k) (fun k => fI s.heap q27 k) := UN.congr (fun j => Wr.neI wH18007 (Or.inl (G_ne gq27 gq26 (by decide)))) b17973
        have b18014 : UN (tk.toInt ≠ 0) (fun k => fI H18007 q28 k) (fun k => fI s.heap q28 k) := UN.congr (fun j => Wr.neI wH18007 (Or.inl (G_ne gq28 gq26 (by decide)))) b17974
        have b18015 : UN (tk.toInt ≠ 0) (fun k => fI H18007 q29 k) (fun k => fI s.heap q29 k) := UN.congr (fun j => Wr.neI wH18007 (Or.inl (G_ne gq29 gq26 (by decide)))) b17975
        have b18016 : UN (tk.toInt ≠ 0) (fun k => fI H18007 q30 k) (fun k => fI s.heap q30 k) := UN.congr (fun j => Wr.neI wH18007 (Or.inl (G_ne gq30 gq26 (by decide)))) b17976
        have b18017 : UN (tk.toInt ≠ 0) (fun k => fI H18007 q31 k) (fun k => fI s.heap q31 k) := UN.congr (fun j => Wr.neI wH18007 (Or.inl (G_ne gq31 gq26 (by decide)))) b17977
        have b18018 : UN (tk.toInt ≠ 0) (fun k => fI H18007 q32 k) (fun k => fI s.heap q32 k) := UN.congr (fun j => Wr.neI wH18007 (Or.inl (G_ne gq32 gq26 (by decide)))) b17978
        have b18019 : UN (tk.toInt ≠ 0) (fun k => fI H18007 q33 k) (fun k => fI s.heap q33 k) := UN.congr (fun j => Wr.neI wH18007 (Or.inl (G_ne gq33 gq26 (by decide)))) b17979
        have b18020 : UN (tk.toInt = 0) (fun k => fI H18007 iq k) (fun k => fI s.heap iq k) := UN.congr (fun j => Wr.neI wH18007 (Or.inl (G_ne giq gq26 (by decide)))) b17995
        have b18021 : FB (fun k => fI H18007 iq k) (fun k => fI s.heap iq k) (8908) := FB.congr (fun j => Wr.neI wH18007 (Or.inl (G_ne giq gq26 (by decide)))) b17996
        have b18022 : EQ (fun k => fI H18007 q24 k) (fun k => fI H18007 iq k) (8908) (1) (6) := EQ.congr (fun j => Wr.neI wH18007 (Or.inl (G_ne gq24 gq26 (by decide)))) (fun j => Wr.neI wH18007 (Or.inl (G_ne giq gq26 (by decide)))) b17997
        have b18023 : EQ (fun k => fI H18007 q25 k) (fun k => fI H18007 iq k) (8914) (7) (x17861.toNatClampNeg + 1) := EQ.congr (fun j => Wr.neI wH18007 (Or.inl (G_ne gq25 gq26 (by decide)))) (fun j => Wr.neI wH18007 (Or.inl (G_ne giq gq26 (by decide)))) b17998
        have b18024 : EQ (fun k => fI H18007 q26 k) (fun k => fI H18007 iq k) (8915) (7) (x17861.toNatClampNeg + 1) := EQ.st b17999 (i := x17861.toNatClampNeg) (t := x17873.toNatClampNeg) (by omega) m17966 (by omega) (Wr.I wH18007) (fun j hj => Wr.neI wH18007 (Or.inr hj)) (fun j => Wr.neI wH18007 (Or.inl (G_ne giq gq26 (by decide))))
        have b18025 : EQ (fun k => fI H18007 q27 k) (fun k => fI H18007 iq k) (8916) (7) (x17861.toNatClampNeg) := EQ.congr (fun j => Wr.neI wH18007 (Or.inl (G_ne gq27 gq26 (by decide)))) (fun j => Wr.neI wH18007 (Or.inl (G_ne giq gq26 (by decide)))) b18000
        have b18026 : EQ (fun k => fI H18007 q28 k) (fun k => fI H18007 iq k) (8917) (7) (x17861.toNatClampNeg) := EQ.congr (fun j => Wr.neI wH18007 (Or.inl (G_ne gq28 gq26 (by decide)))) (fun j => Wr.neI wH18007 (Or.inl (G_ne giq gq26 (by decide)))) b18001
        have b18027 : EQ (fun k => fI H18007 q29 k) (fun k => fI H18007 iq k) (8918) (7) (x17861.toNatClampNeg) := EQ.congr (fun j => Wr.neI wH18007 (Or.inl (G_ne gq29 gq26 (by decide)))) (fun j => Wr.neI wH18007 (Or.inl (G_ne giq gq26 (by decide)))) b18002
        have b18028 : EQ (fun k => fI H18007 q30 k) (fun k => fI H18007 iq k) (8919) (7) (x17861.toNatClampNeg) := EQ.congr (fun j => Wr.neI wH18007 (Or.inl (G_ne gq30 gq26 (by decide)))) (fun j => Wr.neI wH18007 (Or.inl (G_ne giq gq26 (by decide)))) b18003
        have b18029 : EQ (fun k => fI H18007 q31 k) (fun k => fI H18007 iq k) (8920) (7) (x17861.toNatClampNeg) := EQ.congr (fun j => Wr.neI wH18007 (Or.inl (G_ne gq31 gq26 (by decide)))) (fun j => Wr.neI wH18007 (Or.inl (G_ne giq gq26 (by decide)))) b18004
        have b18030 : EQ (fun k => fI H18007 q32 k) (fun k => fI H18007 iq k) (9586) (2) (0) := EQ.congr (fun j => Wr.neI wH18007 (Or.inl (G_ne gq32 gq26 (by decide)))) (fun j => Wr.neI wH18007 (Or.inl (G_ne giq gq26 (by decide)))) b18005
        have b18031 : EQ (fun k => fI H18007 q33 k) (fun k => fI H18007 iq k) (9587) (2) (0) := EQ.congr (fun j => Wr.neI wH18007 (Or.inl (G_ne gq33 gq26 (by decide)))) (fun j => Wr.neI wH18007 (Or.inl (G_ne giq gq26 (by decide)))) b18006
        have m18032 := m17980.trans (Wr.neI wH18007 (Or.inl (G_ne gq25 gq26 (by decide)))).symm
        have m18034 := m17963.trans (Wr.neR wH18007 (Or.inl (G_ne ga0 gq26 (by decide)))).symm
        have m18035 := m17983.trans (Wr.neR wH18007 (Or.inl (G_ne ga0 gq26 (by decide)))).symm
        have m18036 := m17984.trans (Wr.neR wH18007 (Or.inl (G_ne ga0 gq26 (by decide)))).symm
        have m18037 := m17985.trans (Wr.neR wH18007 (Or.inl (G_ne ga0 gq26 (by decide)))).symm
        have m18038 := m17986.trans (Wr.neR wH18007 (Or.inl (G_ne ga0 gq26 (by decide)))).symm
        have m18039 := m17987.trans (Wr.neR wH18007 (Or.inl (G_ne ga0 gq26 (by decide)))).symm
        have m18040 := m17988.trans (Wr.neR wH18007 (Or.inl (G_ne ga0 gq26 (by decide)))).symm
        have m18041 := m17989.trans (Wr.neR wH18007 (Or.inl (G_ne ga0 gq26 (by decide)))).symm
        have m18042 := m17990.trans (Wr.neR wH18007 (Or.inl (G_ne ga0 gq26 (by decide)))).symm
        have m18043 := m17991.trans (Wr.neR wH18007 (Or.inl (G_ne ga0 gq26 (by decide)))).symm
        have m18044 := m17992.trans (Wr.neR wH18007 (Or.inl (G_ne ga0 gq26 (by decide)))).symm
        have m18045 := m17993.trans (Wr.neI wH18007 (Or.inl (G_ne ga0 gq26 (by decide)))).symm
        have m18046 := ex17962.trans (Wr.neI wH18007 (Or.inl (G_ne ga0 gq26 (by decide)))).symm
        have m18047 := Wr.I wH18007
        have m18047 := m18047.symm
        clear b17970 b17971 b17972 b17973 b17974 b17975 b17976 b17977 b17978 b17979 b17995 b17996 b17997 b17998 b17999 b18000 b18001 b18002 b18003 b18004 b18005 b18006 ex17962 g17964 hTH17960 m17963 m17980 m17981 m17983 m17984 m17985 m17986 m17987 m17988 m17989 m17990 m17991 m17992 m17993 mf17994
        refine lv_aload_n hx hb dX10_keepsTexts_70 rfl (lv_at hl17860 0 rfl) ?_
        refine x_gr C hTH18007 (ci := 10) (k := 27) rfl inX10 (by decide) wF_X10_68 ga0 rg_112 rfl dX10_keepsTexts_71 (fun q18048 eq18048 gq18048 => ?_)
        have uq18048 : q27 = q18048 := (m18038).trans eq18048.symm
        subst uq18048
        clear eq18048
        refine lv_iload_n hx hb dX10_keepsTexts_74 rfl (lv_at hl17860 1 rfl) ?_
        refine lv_aload_n hx hb dX10_keepsTexts_75 rfl (lv_at hl17860 0 rfl) ?_
        refine lv_aload_n hx hb dX10_keepsTexts_76 rfl (lv_at hl17860 0 rfl) ?_
        refine x_gr C hTH18007 (ci := 10) (k := 27) rfl inX10 (by decide) wF_X10_68 ga0 rg_112 rfl dX10_keepsTexts_77 (fun q18049 eq18049 gq18049 => ?_)
        have uq18049 : q27 = q18049 := (m18038).trans eq18049.symm
        subst uq18049
        clear eq18049
        refine lv_iload_n hx hb dX10_keepsTexts_80 rfl (lv_at hl17860 1 rfl) ?_
        refine x_ai C hTH18007 gq27 rg_131 ⟨bx17861.1, Int.lt_of_le_of_lt bx17861.2 (by decide)⟩ dX10_keepsTexts_81 (fun x18050 ex18050 bx18050 => ?_)
        refine x_V (As := [.int x18050]) (rest := [.int x17861, .ref q27]) C (a_X10_kept l K G H18007 (x18050) (x17962) (tk) hTH18007 ga0 giq m18034 m18046 m18045 g18009 (by and_intros <;> first | assumption | omega)) yo_X10_kept wM_X10_473 ⟨⟨by decide, by decide⟩, by decide, by decide⟩ (x_rv C hTH18007 (ci := 10) rfl ga0 rg_112) rfl hl17860.1 rfl (Nat.le_of_ble_eq_true rfl) dX10_keepsTexts_82 hSH18007 (AE_sub (fun _ _ => rfl) (by decide) hSH18007.1) (fun vH18051 H18051 locsH18051 pH18051 zH18051 kH18051 hSH18051 => ?_)
        obtain ⟨x18052, x18053, hvH18051, ex18053, hrH18051, m18054, g18055, mf18056, m18057, m18058, m18059, m18060, hTH18051⟩ := pH18051
        subst hvH18051
        clear zH18051
        replace m18054 := EQN.mk m18054
        have b18061 : UN (tk.toInt ≠ 0) (fun k => fI H18051 q24 k) (fun k => fI s.heap q24 k) := UN.congr (fun j => fI_kept (x_lt hTH18007 kH18051 gq24 (by decide))) b18010
        have b18062 : UN (tk.toInt ≠ 0) (fun k => fI H18051 q25 k) (fun k => fI s.heap q25 k) := UN.congr (fun j => fI_kept (x_lt hTH18007 kH18051 gq25 (by decide))) b18011
        have b18063 : UN (tk.toInt ≠ 0) (fun k => fI H18051 q26 k) (fun k => fI s.heap q26 k) := UN.congr (fun j => fI_kept (x_lt hTH18007 kH18051 gq26 (by decide))) b18012
        have b18064 : UN (tk.toInt ≠ 0) (fun k => fI H18051 q27 k) (fun k => fI s.heap q27 k) := UN.congr (fun j => fI_kept (x_lt hTH18007 kH18051 gq27 (by decide))) b18013
        have b18065 : UN (tk.toInt ≠ 0) (fun k => fI H18051 q28 k) (fun k => fI s.heap q28 k) := UN.congr (fun j => fI_kept (x_lt hTH18007 kH18051 gq28 (by decide))) b18014
        have b18066 : UN (tk.toInt ≠ 0) (fun k => fI H18051 q29 k) (fun k => fI s.heap q29 k) := UN.congr (fun j => fI_kept (x_lt hTH18007 kH18051 gq29 (by decide))) b18015
        have b18067 : UN (tk.toInt ≠ 0) (fun k => fI H18051 q30 k) (fun k => fI s.heap q30 k) := UN.congr (fun j => fI_kept (x_lt hTH18007 kH18051 gq30 (by decide))) b18016
        have b18068 : UN (tk.toInt ≠ 0) (fun k => fI H18051 q31 k) (fun k => fI s.heap q31 k) := UN.congr (fun j => fI_kept (x_lt hTH18007 kH18051 gq31 (by decide))) b18017
        have b18069 : UN (tk.toInt ≠ 0) (fun k => fI H18051 q32 k) (fun k => fI s.heap q32 k) := UN.congr (fun j => fI_kept (x_lt hTH18007 kH18051 gq32 (by decide))) b18018
        have b18070 : UN (tk.toInt ≠ 0) (fun k => fI H18051 q33 k) (fun k => fI s.heap q33 k) := UN.congr (fun j => fI_kept (x_lt hTH18007 kH18051 gq33 (by decide))) b18019
        have m18071 := (m18032).trans (fI_kept (x_lt hTH18007 kH18051 gq25 (by decide))).symm
        have m18072 := (m18047).trans (fI_kept (x_lt hTH18007 kH18051 gq26 (by decide))).symm
        have m18073 := (ex18050).trans (fI_kept (x_lt hTH18007 kH18051 gq27 (by decide))).symm
        have m18074 := (m18034).trans (MF.r mf18056 (k := 73) (by decide) (by decide)).symm
        have m18075 := (m18035).trans (MF.r mf18056 (k := 24) (by decide) (by decide)).symm
        have m18076 := (m18036).trans (MF.r mf18056 (k := 25) (by decide) (by decide)).symm
        have m18077 := (m18037).trans (MF.r mf18056 (k := 26) (by decide) (by decide)).symm
        have m18078 := (m18038).trans (MF.r mf18056 (k := 27) (by decide) (by decide)).symm
        have m18079 := (m18039).trans (MF.r mf18056 (k := 28) (by decide) (by decide)).symm
        have m18080 := (m18040).trans (MF.r mf18056 (k := 29) (by decide) (by decide)).symm
        have m18081 := (m18041).trans (MF.r mf18056 (k := 30) (by decide) (by decide)).symm
        have m18082 := (m18042).trans (MF.r mf18056 (k := 31) (by decide) (by decide)).symm
        have m18083 := (m18043).trans (MF.r mf18056 (k := 32) (by decide) (by decide)).symm
        have m18084 := (m18044).trans (MF.r mf18056 (k := 33) (by decide) (by decide)).symm
        have m18085 := (m18045).trans (MF.i mf18056 (k := 71) (by decide) (by decide)).symm
        have mf18086 : MF K s.heap H18051 a0 [72] := MF.trans mf18008 mf18056 (by decide)
        have bx18053 := ty_fi (x := x18053) (k := 72) ex18053 hTH18051 ga0 rg_112 rfl
        have ce_x17962 := i_cl (x := x17962) bx17962.1
        have e_ : x17962.toNatClampNeg = 8916 + 7 * x17861.toNatClampNeg := by omega
        have k3e_ := m18059
        rw [e_] at k3e_
        have b18087 : UN (tk.toInt = 0) (fun k => fI H18051 iq k) (fun k => fI s.heap iq k) := UN.tr m18060 b18020
        have b18088 : FB (fun k => fI H18051 iq k) (fun k => fI s.heap iq k) (8908) := FB.wr b18021 k3e_ (fun j hj => Nat.ne_of_lt (Nat.lt_of_lt_of_le hj (Nat.le_trans (by decide : 8908 ≤ 8916) (Nat.le_add_right _ _))))
        have b18089 : EQ (fun k => fI H18051 q24 k) (fun k => fI H18051 iq k) (8908) (1) (6) := EQ.wr (EQ.congr (w1 := fun k => fI H18007 iq k) (fun j => fI_kept (x_lt hTH18007 kH18051 gq24 (by decide))) (fun _ => rfl) b18022) k3e_ (fun j hj => nE_8908_1_6_8916_7 hj)
        have b18090 : EQ (fun k => fI H18051 q25 k) (fun k => fI H18051 iq k) (8914) (7) (x17861.toNatClampNeg + 1) := EQ.wr (EQ.congr (w1 := fun k => fI H18007 iq k) (fun j => fI_kept (x_lt hTH18007 kH18051 gq25 (by decide))) (fun _ => rfl) b18023) k3e_ (fun j hj => nE_8914_7_i1_8916_7 hj)
        have b18091 : EQ (fun k => fI H18051 q26 k) (fun k => fI H18051 iq k) (8915) (7) (x17861.toNatClampNeg + 1) := EQ.wr (EQ.congr (w1 := fun k => fI H18007 iq k) (fun j => fI_kept (x_lt hTH18007 kH18051 gq26 (by decide))) (fun _ => rfl) b18024) k3e_ (fun j hj => nE_8915_7_i1_8916_7 hj)
        have b18092 : EQ (fun k => fI H18051 q27 k) (fun k => fI H18051 iq k) (8916) (7) (x17861.toNatClampNeg) := EQ.wr (EQ.congr (w1 := fun k => fI H18007 iq k) (fun j => fI_kept (x_lt hTH18007 kH18051 gq27 (by decide))) (fun _ => rfl) b18025) k3e_ (fun j hj => nE_8916_7_i_8916_7 hj)
        have b18093 : EQ (fun k => fI H18051 q28 k) (fun k => fI H18051 iq k) (8917) (7) (x17861.toNatClampNeg) := EQ.wr (EQ.congr (w1 := fun k => fI H18007 iq k) (fun j => fI_kept (x_lt hTH18007 kH18051 gq28 (by decide))) (fun _ => rfl) b18026) k3e_ (fun j hj => nE_8917_7_i_8916_7 hj)
        have b18094 : EQ (fun k => fI H18051 q29 k) (fun k => fI H18051 iq k) (8918) (7) (x17861.toNatClampNeg) := EQ.wr (EQ.congr (w1 := fun k => fI H18007 iq k) (fun j => fI_kept (x_lt hTH18007 kH18051 gq29 (by decide))) (fun _ => rfl) b18027) k3e_ (fun j hj => nE_8918_7_i_8916_7 hj)
        have b18095 : EQ (fun k => fI H18051 q30 k) (fun k => fI H18051 iq k) (8919) (7) (x17861.toNatClampNeg) := EQ.wr (EQ.congr (w1 := fun k => fI H18007 iq k) (fun j => fI_kept (x_lt hTH18007 kH18051 gq30 (by decide))) (fun _ => rfl) b18028) k3e_ (fun j hj => nE_8919_7_i_8916_7 hj)
        have b18096 : EQ (fun k => fI H18051 q31 k) (fun k => fI H18051 iq k) (8920) (7) (x17861.toNatClampNeg) := EQ.wr (EQ.congr (w1 := fun k => fI H18007 iq k) (fun j => fI_kept (x_lt hTH18007 kH18051 gq31 (by decide))) (fun _ => rfl) b18029) k3e_ (fun j hj => nE_8920_7_i_8916_7 hj)
        have b18097 : EQ (fun k => fI H18051 q32 k) (fun k => fI H18051 iq k) (9586) (2) (0) := EQ.wr (EQ.congr (w1 := fun k => fI H18007 iq k) (fun j => fI_kept (x_lt hTH18007 kH18051 gq32 (by decide))) (fun _ => rfl) b18030) k3e_ (fun j hj => nE_9586_2_0_8916_7 hj)
        have b18098 : EQ (fun k => fI H18051 q33 k) (fun k => fI H18051 iq k) (9587) (2) (0) := EQ.wr (EQ.congr (w1 := fun k => fI H18007 iq k) (fun j => fI_kept (x_lt hTH18007 kH18051 gq33 (by decide))) (fun _ => rfl) b18031) k3e_ (fun j hj => nE_9587_2_0_8916_7 hj)
        clear b18010 b18011 b18012 b18013 b18014 b18015 b18016 b18017 b18018 b18019 b18020 b18021 b18022 b18023 b18024 b18025 b18026 b18027 b18028 b18029 b18030 b18031 ex18050 m18032 m18034 m18035 m18036 m18037 m18038 m18039 m18040 m18041 m18042 m18043 m18044 m18045 m18046 m18047
        clear m18059 m18060 k3e_ e_
        have bx18052 : (-1) ≤ x18052.toInt ∧ x18052.toInt ≤ 15 := kr (fun h0 => by have hiw := (hy0 h0); exact kr0 (w := fun k => fI H18051 iq k) m18057 (p := 8916 + 7 * x17861.toNatClampNeg) (by omega) (b18087 h0) ((hiw.2.2.2.2.1 x17861.toNatClampNeg (by omega)).1)) m18058 (by omega)
        refine W.eq (g2 := F0 m 85 ls17859 [.int x18052, .int x17861, .ref q27]) rfl ?_
        refine x_iast C hTH18051 hSH18051 gq27 rg_131 bx17861.1 (Int.lt_of_le_of_lt bx17861.2 (by decide)) ⟨by have := i_rng x18052; omega, by have := i_rng x18052; omega⟩ (AE_in gq27 (by decide)) dX10_keepsTexts_85 (fun H18099 locsH18099 hTH18099 hSH18099 wH18099 => ?_)
        have mf18100 : MF K s.heap H18099 a0 [72] := MF.arr wH18099 (G_ne ga0 gq27 (by decide)) mf18086
        have g18101 : WD (avw K H18099 a0) := WD.congr (fun k hk j => av_arr hTH18051 ga0 wH18099 gq27 (by decide) (WD_ok 131 (by decide) k hk)) g18055
        have b18102 : UN (tk.toInt ≠ 0) (fun k => fI H18099 q24 k) (fun k => fI s.heap q24 k) := UN.congr (fun j => Wr.neI wH18099 (Or.inl (G_ne gq24 gq27 (by decide)))) b18061
        have b18103 : UN (tk.toInt ≠ 0) (fun k => fI H18099 q25 k) (fun k => fI s.heap q25 k) := UN.congr (fun j => Wr.neI wH18099 (Or.inl (G_ne gq25 gq27 (by decide)))) b18062
        have b18104 : UN (tk.toInt ≠ 0) (fun k => fI H18099 q26 k) (fun k => fI s.heap q26 k) := UN.congr (fun j => Wr.neI wH18099 (Or.inl (G_ne gq26 gq27 (by decide)))) b18063
        have b18105 : UN (tk.toInt ≠ 0) (fun k => fI H18099 q27 k) (fun k => fI s.heap q27 k) := UN.st b18064 (i := x17861.toNatClampNeg) (fun hc => (m18058 hc).trans m18073) (Wr.I wH18099) (fun j hj => Wr.neI wH18099 (Or.inr hj))
        have b18106 : UN (tk.toInt ≠ 0) (fun k => fI H18099 q28 k) (fun k => fI s.heap q28 k) := UN.congr (fun j => Wr.neI wH18099 (Or.inl (G_ne gq28 gq27 (by decide)))) b18065
        have b18107 : UN (tk.toInt ≠ 0) (fun k => fI H18099 q29 k) (fun k => fI s.heap q29 k) := UN.congr (fun j => Wr.neI wH18099 (Or.inl (G_ne gq29 gq27 (by decide)))) b18066
        have b18108 : UN (tk.toInt ≠ 0) (fun k => fI H18099 q30 k) (fun k => fI s.heap q30 k) := UN.congr (fun j => Wr.neI wH18099 (Or.inl (G_ne gq30 gq27 (by decide)))) b18067
        have b18109 : UN (tk.toInt ≠ 0) (fun k => fI H18099 q31 k) (fun k => fI s.heap q31 k) := UN.congr (fun j => Wr.neI wH18099 (Or.inl (G_ne gq31 gq27 (by decide)))) b18068
        have b18110 : UN (tk.toInt ≠ 0) (fun k => fI H18099 q32 k) (fun k => fI s.heap q32 k) := UN.congr (fun j => Wr.neI wH18099 (Or.inl (G_ne gq32 gq27 (by decide)))) b18069
        have b18111 : UN (tk.toInt ≠ 0) (fun k => fI H18099 q33 k) (fun k => fI s.heap q33 k) := UN.congr (fun j => Wr.neI wH18099 (Or.inl (G_ne gq33 gq27 (by decide)))) b18070
        have b18112 : UN (tk.toInt = 0) (fun k => fI H18099 iq k) (fun k => fI s.heap iq k) := UN.congr (fun j => Wr.neI wH18099 (Or.inl (G_ne giq gq27 (by decide)))) b18087
        have b18113 : FB (fun k => fI H18099 iq k) (fun k => fI s.heap iq k) (8908) := FB.congr (fun j => Wr.neI wH18099 (Or.inl (G_ne giq gq27 (by decide)))) b18088
        have b18114 : EQ (fun k => fI H18099 q24 k) (fun k => fI H18099 iq k) (8908) (1) (6) := EQ.congr (fun j => Wr.neI wH18099 (Or.inl (G_ne gq24 gq27 (by decide)))) (fun j => Wr.neI wH18099 (Or.inl (G_ne giq gq27 (by decide)))) b18089
        have b18115 : EQ (fun k => fI H18099 q25 k) (fun k => fI H18099 iq k) (8914) (7) (x17861.toNatClampNeg + 1) := EQ.congr (fun j => Wr.neI wH18099 (Or.inl (G_ne gq25 gq27 (by decide)))) (fun j => Wr.neI wH18099 (Or.inl (G_ne giq gq27 (by decide)))) b18090
        have b18116 : EQ (fun k => fI H18099 q26 k) (fun k => fI H18099 iq k) (8915) (7) (x17861.toNatClampNeg + 1) := EQ.congr (fun j => Wr.neI wH18099 (Or.inl (G_ne gq26 gq27 (by decide)))) (fun j => Wr.neI wH18099 (Or.inl (G_ne giq gq27 (by decide)))) b18091
        have b18117 : EQ (fun k => fI H18099 q27 k) (fun k => fI H18099 iq k) (8916) (7) (x17861.toNatClampNeg + 1) := EQ.st b18092 (i := x17861.toNatClampNeg) (t := x17962.toNatClampNeg) (by omega) m18057 (by omega) (Wr.I wH18099) (fun j hj => Wr.neI wH18099 (Or.inr hj)) (fun j => Wr.neI wH18099 (Or.inl (G_ne giq gq27 (by decide))))
        have b18118 : EQ (fun k => fI H18099 q28 k) (fun k => fI H18099 iq k) (8917) (7) (x17861.toNatClampNeg) := EQ.congr (fun j => Wr.neI wH18099 (Or.inl (G_ne gq28 gq27 (by decide)))) (fun j => Wr.neI wH18099 (Or.inl (G_ne giq gq27 (by decide)))) b18093
        have b18119 : EQ (fun k => fI H18099 q29 k) (fun k => fI H18099 iq k) (8918) (7) (x17861.toNatClampNeg) := EQ.congr (fun j => Wr.neI wH18099 (Or.inl (G_ne gq29 gq27 (by decide)))) (fun j => Wr.neI wH18099 (Or.inl (G_ne giq gq27 (by decide)))) b18094
        have b18120 : EQ (fun k => fI H18099 q30 k) (fun k => fI H18099 iq k) (8919) (7) (x17861.toNatClampNeg) := EQ.congr (fun j => Wr.neI wH18099 (Or.inl (G_ne gq30 gq27 (by decide)))) (fun j => Wr.neI wH18099 (Or.inl (G_ne giq gq27 (by decide)))) b18095
        have b18121 : EQ (fun k => fI H18099 q31 k) (fun k => fI H18099 iq k) (8920) (7) (x17861.toNatClampNeg) := EQ.congr (fun j => Wr.neI wH18099 (Or.inl (G_ne gq31 gq27 (by decide)))) (fun j => Wr.neI wH18099 (Or.inl (G_ne giq gq27 (by decide)))) b18096
        have b18122 : EQ (fun k => fI H18099 q32 k) (fun k => fI H18099 iq k) (9586) (2) (0) := EQ.congr (fun j => Wr.neI wH18099 (Or.inl (G_ne gq32 gq27 (by decide)))) (fun j => Wr.neI wH18099 (Or.inl (G_ne giq gq27 (by decide)))) b18097
        have b18123 : EQ (fun k => fI H18099 q33 k) (fun k => fI H18099 iq k) (9587) (2) (0) := EQ.congr (fun j => Wr.neI wH18099 (Or.inl (G_ne gq33 gq27 (by decide)))) (fun j => Wr.neI wH18099 (Or.inl (G_ne giq gq27 (by decide)))) b18098
        have m18124 := m18071.trans (Wr.neI wH18099 (Or.inl (G_ne gq25 gq27 (by decide)))).symm
        have m18125 := m18072.trans (Wr.neI wH18099 (Or.inl (G_ne gq26 gq27 (by decide)))).symm
        have m18127 := m18054.trans (Wr.neR wH18099 (Or.inl (G_ne ga0 gq27 (by decide)))).symm
        have m18128 := m18075.trans (Wr.neR wH18099 (Or.inl (G_ne ga0 gq27 (by decide)))).symm
        have m18129 := m18076.trans (Wr.neR wH18099 (Or.inl (G_ne ga0 gq27 (by decide)))).symm
        have m18130 := m18077.trans (Wr.neR wH18099 (Or.inl (G_ne ga0 gq27 (by decide)))).symm
        have m18131 := m18078.trans (Wr.neR wH18099 (Or.inl (G_ne ga0 gq27 (by decide)))).symm
        have m18132 := m18079.trans (Wr.neR wH18099 (Or.inl (G_ne ga0 gq27 (by decide)))).symm
        have m18133 := m18080.trans (Wr.neR wH18099 (Or.inl (G_ne ga0 gq27 (by decide)))).symm
        have m18134 := m18081.trans (Wr.neR wH18099 (Or.inl (G_ne ga0 gq27 (by decide)))).symm
        have m18135 := m18082.trans (Wr.neR wH18099 (Or.inl (G_ne ga0 gq27 (by decide)))).symm
        have m18136 := m18083.trans (Wr.neR wH18099 (Or.inl (G_ne ga0 gq27 (by decide)))).symm
        have m18137 := m18084.trans (Wr.neR wH18099 (Or.inl (G_ne ga0 gq27 (by decide)))).symm
        have m18138 := m18085.trans (Wr.neI wH18099 (Or.inl (G_ne ga0 gq27 (by decide)))).symm
        have m18139 := ex18053.trans (Wr.neI wH18099 (Or.inl (G_ne ga0 gq27 (by decide)))).symm
        have m18140 := Wr.I wH18099
        have m18140 := m18140.symm
        clear b18061 b18062 b18063 b18064 b18065 b18066 b18067 b18068 b18069 b18070 b18087 b18088 b18089 b18090 b18091 b18092 b18093 b18094 b18095 b18096 b18097 b18098 ex18053 g18055 hTH18051 m18054 m18071 m18072 m18073 m18075 m18076 m18077 m18078 m18079 m18080 m18081 m18082 m18083 m18084 m18085 mf18086
        refine lv_aload_n hx hb dX10_keepsTexts_86 rfl (lv_at hl17860 0 rfl) ?_
        refine x_gr C hTH18099 (ci := 10) (k := 28) rfl inX10 (by decide) wF_X10_71 ga0 rg_112 rfl dX10_keepsTexts_87 (fun q18141 eq18141 gq18141 => ?_)
        have uq18141 : q28 = q18141 := (m18132).trans eq18141.symm
        subst uq18141
        clear eq18141
        refine lv_iload_n hx hb dX10_keepsTexts_90 rfl (lv_at hl17860 1 rfl) ?_
        refine lv_aload_n hx hb dX10_keepsTexts_91 rfl (lv_at hl17860 0 rfl) ?_
        refine lv_aload_n hx hb dX10_keepsTexts_92 rfl (lv_at hl17860 0 rfl) ?_
        refine x_gr C hTH18099 (ci := 10) (k := 28) rfl inX10 (by decide) wF_X10_71 ga0 rg_112 rfl dX10_keepsTexts_93 (fun q18142 eq18142 gq18142 => ?_)
        have uq18142 : q28 = q18142 := (m18132).trans eq18142.symm
        subst uq18142
        clear eq18142
        refine lv_iload_n hx hb dX10_keepsTexts_96 rfl (lv_at hl17860 1 rfl) ?_
        refine x_ai C hTH18099 gq28 rg_132 ⟨bx17861.1, Int.lt_of_le_of_lt bx17861.2 (by decide)⟩ dX10_keepsTexts_97 (fun x18143 ex18143 bx18143 => ?_)
        refine x_V (As := [.int x18143]) (rest := [.int x17861, .ref q28]) C (a_X10_kept l K G H18099 (x18143) (x18053) (tk) hTH18099 ga0 giq m18127 m18139 m18138 g18101 (by and_intros <;> first | assumption | omega)) yo_X10_kept wM_X10_473 ⟨⟨by decide, by decide⟩, by decide, by decide⟩ (x_rv C hTH18099 (ci := 10) rfl ga0 rg_112) rfl hl17860.1 rfl (Nat.le_of_ble_eq_true rfl) dX10_keepsTexts_98 hSH18099 (AE_sub (fun _ _ => rfl) (by decide) hSH18099.1) (fun vH18144 H18144 locsH18144 pH18144 zH18144 kH18144 hSH18144 => ?_)
        obtain ⟨x18145, x18146, hvH18144, ex18146, hrH18144, m18147, g18148, mf18149, m18150, m18151, m18152, m18153, hTH18144⟩ := pH18144
        subst hvH18144
        clear zH18144
        replace m18147 := EQN.mk m18147
        have b18154 : UN (tk.toInt ≠ 0) (fun k => fI H18144 q24 k) (fun k => fI s.heap q24 k) := UN.congr (fun j => fI_kept (x_lt hTH18099 kH18144 gq24 (by decide))) b18102
        have b18155 : UN (tk.toInt ≠ 0) (fun k => fI H18144 q25 k) (fun k => fI s.heap q25 k) := UN.congr (fun j => fI_kept (x_lt hTH18099 kH18144 gq25 (by decide))) b18103
        have b18156 : UN (tk.toInt ≠ 0) (fun k => fI H18144 q26 k) (fun k => fI s.heap q26 k) := UN.congr (fun j => fI_kept (x_lt hTH18099 kH18144 gq26 (by decide))) b18104
        have b18157 : UN (tk.toInt ≠ 0) (fun k => fI H18144 q27 k) (fun k => fI s.heap q27 k) := UN.congr (fun j => fI_kept (x_lt hTH18099 kH18144 gq27 (by decide))) b18105
        have b18158 : UN (tk.toInt ≠ 0) (fun k => fI H18144 q28 k) (fun k => fI s.heap q28 k) := UN.congr (fun j => fI_kept (x_lt hTH18099 kH18144 gq28 (by decide))) b18106
        have b18159 : UN (tk.toInt ≠ 0) (fun k => fI H18144 q29 k) (fun k => fI s.heap q29 k) := UN.congr (fun j => fI_kept (x_lt hTH18099 kH18144 gq29 (by decide))) b18107
        have b18160 : UN (tk.toInt ≠ 0) (fun k => fI H18144 q30 k) (fun k => fI s.heap q30 k) := UN.congr (fun j => fI_kept (x_lt hTH18099 kH18144 gq30 (by decide))) b18108
        have b18161 : UN (tk.toInt ≠ 0) (fun k => fI H18144 q31 k) (fun k => fI s.heap q31 k) := UN.congr (fun j => fI_kept (x_lt hTH18099 kH18144 gq31 (by decide))) b18109
        have b18162 : UN (tk.toInt ≠ 0) (fun k => fI H18144 q32 k) (fun k => fI s.heap q32 k) := UN.congr (fun j => fI_kept (x_lt hTH18099 kH18144 gq32 (by decide))) b18110
        have b18163 : UN (tk.toInt ≠ 0) (fun k => fI H18144 q33 k) (fun k => fI s.heap q33 k) := UN.congr (fun j => fI_kept (x_lt hTH18099 kH18144 gq33 (by decide))) b18111
        have m18164 := (m18124).trans (fI_kept (x_lt hTH18099 kH18144 gq25 (by decide))).symm
        have m18165 := (m18125).trans (fI_kept (x_lt hTH18099 kH18144 gq26 (by decide))).symm
        have m18166 := (m18140).trans (fI_kept (x_lt hTH18099 kH18144 gq27 (by decide))).symm
        have m18167 := (ex18143).trans (fI_kept (x_lt hTH18099 kH18144 gq28 (by decide))).symm
        have m18168 := (m18127).trans (MF.r mf18149 (k := 73) (by decide) (by decide)).symm
        have m18169 := (m18128).trans (MF.r mf18149 (k := 24) (by decide) (by decide)).symm
        have m18170 := (m18129).trans (MF.r mf18149 (k := 25) (by decide) (by decide)).symm
        have m18171 := (m18130).trans (MF.r mf18149 (k := 26) (by decide) (by decide)).symm
        have m18172 := (m18131).trans (MF.r mf18149 (k := 27) (by decide) (by decide)).symm
        have m18173 := (m18132).trans (MF.r mf18149 (k := 28) (by decide) (by decide)).symm
        have m18174 := (m18133).trans (MF.r mf18149 (k := 29) (by decide) (by decide)).symm
        have m18175 := (m18134).trans (MF.r mf18149 (k := 30) (by decide) (by decide)).symm
        have m18176 := (m18135).trans (MF.r mf18149 (k := 31) (by decide) (by decide)).symm
        have m18177 := (m18136).trans (MF.r mf18149 (k := 32) (by decide) (by decide)).symm
        have m18178 := (m18137).trans (MF.r mf18149 (k := 33) (by decide) (by decide)).symm
        have m18179 := (m18138).trans (MF.i mf18149 (k := 71) (by decide) (by decide)).symm
        have mf18180 : MF K s.heap H18144 a0 [72] := MF.trans mf18100 mf18149 (by decide)
        have bx18146 := ty_fi (x := x18146) (k := 72) ex18146 hTH18144 ga0 rg_112 rfl
        have ce_x18053 := i_cl (x := x18053) bx18053.1
        have e_ : x18053.toNatClampNeg = 8917 + 7 * x17861.toNatClampNeg := by omega
        have k3e_ := m18152
        rw [e_] at k3e_
        have b18181 : UN (tk.toInt = 0) (fun k => fI H18144 iq k) (fun k => fI s.heap iq k) := UN.tr m18153 b18112
        have b18182 : FB (fun k => fI H18144 iq k) (fun k => fI s.heap iq k) (8908) := FB.wr b18113 k3e_ (fun j hj => Nat.ne_of_lt (Nat.lt_of_lt_of_le hj (Nat.le_trans (by decide : 8908 ≤ 8917) (Nat.le_add_right _ _))))
        have b18183 : EQ (fun k => fI H18144 q24 k) (fun k => fI H18144 iq k) (8908) (1) (6) := EQ.wr (EQ.congr (w1 := fun k => fI H18099 iq k) (fun j => fI_kept (x_lt hTH18099 kH18144 gq24 (by decide))) (fun _ => rfl) b18114) k3e_ (fun j hj => nE_8908_1_6_8917_7 hj)
        have b18184 : EQ (fun k => fI H18144 q25 k) (fun k => fI H18144 iq k) (8914) (7) (x17861.toNatClampNeg + 1) := EQ.wr (EQ.congr (w1 := fun k => fI H18099 iq k) (fun j => fI_kept (x_lt hTH18099 kH18144 gq25 (by decide))) (fun _ => rfl) b18115) k3e_ (fun j hj => nE_8914_7_i1_8917_7 hj)
        have b18185 : EQ (fun k => fI H18144 q26 k) (fun k => fI H18144 iq k) (8915) (7) (x17861.toNatClampNeg + 1) := EQ.wr (EQ.congr (w1 := fun k => fI H18099 iq k) (fun j => fI_kept (x_lt hTH18099 kH18144 gq26 (by decide))) (fun _ => rfl) b18116) k3e_ (fun j hj => nE_8915_7_i1_8917_7 hj)
        have b18186 : EQ (fun k => fI H18144 q27 k) (fun k => fI H18144 iq k) (8916) (7) (x17861.toNatClampNeg + 1) := EQ.wr (EQ.congr (w1 := fun k => fI H18099 iq k) (fun j => fI_kept (x_lt hTH18099 kH18144 gq27 (by decide))) (fun _ => rfl) b18117) k3e_ (fun j hj => nE_8916_7_i1_8917_7 hj)
        have b18187 : EQ (fun k => fI H18144 q28 k) (fun k => fI H18144 iq k) (8917) (7) (x17861.toNatClampNeg) := EQ.wr (EQ.congr (w1 := fun k => fI H18099 iq k) (fun j => fI_kept (x_lt hTH18099 kH18144 gq28 (by decide))) (fun _ => rfl) b18118) k3e_ (fun j hj => nE_8917_7_i_8917_7 hj)
        have b18188 : EQ (fun k => fI H18144 q29 k) (fun k => fI H18144 iq k) (8918) (7) (x17861.toNatClampNeg) := EQ.wr (EQ.congr (w1 := fun k => fI H18099 iq k) (fun j => fI_kept (x_lt hTH18099 kH18144 gq29 (by decide))) (fun _ => rfl) b18119) k3e_ (fun j hj => nE_8918_7_i_8917_7 hj)
        have b18189 : EQ (fun k => fI H18144 q30 k) (fun k => fI H18144 iq k) (8919) (7) (x17861.toNatClampNeg) := EQ.wr (EQ.congr (w1 := fun k => fI H18099 iq k) (fun j => fI_kept (x_lt hTH18099 kH18144 gq30 (by decide))) (fun _ => rfl) b18120) k3e_ (fun j hj => nE_8919_7_i_8917_7 hj)
        have b18190 : EQ (fun k => fI H18144 q31 k) (fun k => fI H18144 iq k) (8920) (7) (x17861.toNatClampNeg) := EQ.wr (EQ.congr (w1 := fun k => fI H18099 iq k) (fun j => fI_kept (x_lt hTH18099 kH18144 gq31 (by decide))) (fun _ => rfl) b18121) k3e_ (fun j hj => nE_8920_7_i_8917_7 hj)
        have b18191 : EQ (fun k => fI H18144 q32 k) (fun k => fI H18144 iq k) (9586) (2) (0) := EQ.wr (EQ.congr (w1 := fun k => fI H18099 iq k) (fun j => fI_kept (x_lt hTH18099 kH18144 gq32 (by decide))) (fun _ => rfl) b18122) k3e_ (fun j hj => nE_9586_2_0_8917_7 hj)
        have b18192 : EQ (fun k => fI H18144 q33 k) (fun k => fI H18144 iq k) (9587) (2) (0) := EQ.wr (EQ.congr (w1 := fun k => fI H18099 iq k) (fun j => fI_kept (x_lt hTH18099 kH18144 gq33 (by decide))) (fun _ => rfl) b18123) k3e_ (fun j hj => nE_9587_2_0_8917_7 hj)
        clear b18102 b18103 b18104 b18105 b18106 b18107 b18108 b18109 b18110 b18111 b18112 b18113 b18114 b18115 b18116 b18117 b18118 b18119 b18120 b18121 b18122 b18123 ex18143 m18124 m18125 m18127 m18128 m18129 m18130 m18131 m18132 m18133 m18134 m18135 m18136 m18137 m18138 m18139 m18140
        clear m18152 m18153 k3e_ e_
        refine W.eq (g2 := F0 m 101 ls17859 [.int x18145, .int x17861, .ref q28]) rfl ?_
        refine x_iast C hTH18144 hSH18144 gq28 rg_132 bx17861.1 (Int.lt_of_le_of_lt bx17861.2 (by decide)) (i_rng x18145) (AE_in gq28 (by decide)) dX10_keepsTexts_101 (fun H18193 locsH18193 hTH18193 hSH18193 wH18193 => ?_)
        have mf18194 : MF K s.heap H18193 a0 [72] := MF.arr wH18193 (G_ne ga0 gq28 (by decide)) mf18180
        have g18195 : WD (avw K H18193 a0) := WD.congr (fun k hk j => av_arr hTH18144 ga0 wH18193 gq28 (by decide) (WD_ok 132 (by decide) k hk)) g18148
        have b18196 : UN (tk.toInt ≠ 0) (fun k => fI H18193 q24 k) (fun k => fI s.heap q24 k) := UN.congr (fun j => Wr.neI wH18193 (Or.inl (G_ne gq24 gq28 (by decide)))) b18154
        have b18197 : UN (tk.toInt ≠ 0) (fun k => fI H18193 q25 k) (fun k => fI s.heap q25 k) := UN.congr (fun j => Wr.neI wH18193 (Or.inl (G_ne gq25 gq28 (by decide)))) b18155
        have b18198 : UN (tk.toInt ≠ 0) (fun k => fI H18193 q26 k) (fun k => fI s.heap q26 k) := UN.congr (fun j => Wr.neI wH18193 (Or.inl (G_ne gq26 gq28 (by decide)))) b18156
        have b18199 : UN (tk.toInt ≠ 0) (fun k => fI H18193 q27 k) (fun k => fI s.heap q27 k) := UN.congr (fun j => Wr.neI wH18193 (Or.inl (G_ne gq27 gq28 (by decide)))) b18157
        have b18200 : UN (tk.toInt ≠ 0) (fun k => fI H18193 q28 k) (fun k => fI s.heap q28 k) := UN.st b18158 (i := x17861.toNatClampNeg) (fun hc => (m18151 hc).trans m18167) (Wr.I wH18193) (fun j hj => Wr.neI wH18193 (Or.inr hj))
        have b18201 : UN (tk.toInt ≠ 0) (fun k => fI H18193 q29 k) (fun k => fI s.heap q29 k) := UN.congr (fun j => Wr.neI wH18193 (Or.inl (G_ne gq29 gq28 (by decide)))) b18159
        have b18202 : UN (tk.toInt ≠ 0) (fun k => fI H18193 q30 k) (fun k => fI s.heap q30 k) := UN.congr (fun j => Wr.neI wH18193 (Or.inl (G_ne gq30 gq28 (by decide)))) b18160
        have b18203 : UN (tk.toInt ≠ 0) (fun k => fI H18193 q31 k) (fun k => fI s.heap q31 k) := UN.congr (fun j => Wr.neI wH18193 (Or.inl (G_ne gq31 gq28 (by decide)))) b18161
        have b18204 : UN (tk.toInt ≠ 0) (fun k => fI H18193 q32 k) (fun k => fI s.heap q32 k) := UN.congr (fun j => Wr.neI wH18193 (Or.inl (G_ne gq32 gq28 (by decide)))) b18162
        have b18205 : UN (tk.toInt ≠ 0) (fun k => fI H18193 q33 k) (fun k => fI s.heap q33 k) := UN.congr (fun j => Wr.neI wH18193 (Or.inl (G_ne gq33 gq28 (by decide)))) b18163
        have b18206 : UN (tk.toInt = 0) (fun k => fI H18193 iq k) (fun k => fI s.heap iq k) := UN.congr (fun j => Wr.neI wH18193 (Or.inl (G_ne giq gq28 (by decide)))) b18181
        have b18207 : FB (fun k => fI H18193 iq k) (fun k => fI s.heap iq k) (8908) := FB.congr (fun j => Wr.neI wH18193 (Or.inl (G_ne giq gq28 (by decide)))) b18182
        have b18208 : EQ (fun k => fI H18193 q24 k) (fun k => fI H18193 iq k) (8908) (1) (6) := EQ.congr (fun j => Wr.neI wH18193 (Or.inl (G_ne gq24 gq28 (by decide)))) (fun j => Wr.neI wH18193 (Or.inl (G_ne giq gq28 (by decide)))) b18183
        have b18209 : EQ (fun k => fI H18193 q25 k) (fun k => fI H18193 iq k) (8914) (7) (x17861.toNatClampNeg + 1) := EQ.congr (fun j => Wr.neI wH18193 (Or.inl (G_ne gq25 gq28 (by decide)))) (fun j => Wr.neI wH18193 (Or.inl (G_ne giq gq28 (by decide)))) b18184
        have b18210 : EQ (fun k => fI H18193 q26 k) (fun k => fI H18193 iq k) (8915) (7) (x17861.toNatClampNeg + 1) := EQ.congr (fun j => Wr.neI wH18193 (Or.inl (G_ne gq26 gq28 (by decide)))) (fun j => Wr.neI wH18193 (Or.inl (G_ne giq gq28 (by decide)))) b18185
        have b18211 : EQ (fun k => fI H18193 q27 k) (fun k => fI H18193 iq k) (8916) (7) (x17861.toNatClampNeg + 1) := EQ.congr (fun j => Wr.neI wH18193 (Or.inl (G_ne gq27 gq28 (by decide)))) (fun j => Wr.neI wH18193 (Or.inl (G_ne giq gq28 (by decide)))) b18186
        have b18212 : EQ (fun k => fI H18193 q28 k) (fun k => fI H18193 iq k) (8917) (7) (x17861.toNatClampNeg + 1) := EQ.st b18187 (i := x17861.toNatClampNeg) (t := x18053.toNatClampNeg) (by omega) m18150 (by omega) (Wr.I wH18193) (fun j hj => Wr.neI wH18193 (Or.inr hj)) (fun j => Wr.neI wH18193 (Or.inl (G_ne giq gq28 (by decide))))
        have b18213 : EQ (fun k => fI H18193 q29 k) (fun k => fI H18193 iq k) (8918) (7) (x17861.toNatClampNeg) := EQ.congr (fun j => Wr.neI wH18193 (Or.inl (G_ne gq29 gq28 (by decide)))) (fun j => Wr.neI wH18193 (Or.inl (G_ne giq gq28 (by decide)))) b18188
        have b18214 : EQ (fun k => fI H18193 q30 k) (fun k => fI H18193 iq k) (8919) (7) (x17861.toNatClampNeg) := EQ.congr (fun j => Wr.neI wH18193 (Or.inl (G_ne gq30 gq28 (by decide)))) (fun j => Wr.neI wH18193 (Or.inl (G_ne giq gq28 (by decide)))) b18189
        have b18215 : EQ (fun k => fI H18193 q31 k) (fun k => fI H18193 iq k) (8920) (7) (x17861.toNatClampNeg) := EQ.congr (fun j => Wr.neI wH18193 (Or.inl (G_ne gq31 gq28 (by decide)))) (fun j => Wr.neI wH18193 (Or.inl (G_ne giq gq28 (by decide)))) b18190
        have b18216 : EQ (fun k => fI H18193 q32 k) (fun k => fI H18193 iq k) (9586) (2) (0) := EQ.congr (fun j => Wr.neI wH18193 (Or.inl (G_ne gq32 gq28 (by decide)))) (fun j => Wr.neI wH18193 (Or.inl (G_ne giq gq28 (by decide)))) b18191
        have b18217 : EQ (fun k => fI H18193 q33 k) (fun k => fI H18193 iq k) (9587) (2) (0) := EQ.congr (fun j => Wr.neI wH18193 (Or.inl (G_ne gq33 gq28 (by decide)))) (fun j => Wr.neI wH18193 (Or.inl (G_ne giq gq28 (by decide)))) b18192
        have m18218 := m18164.trans (Wr.neI wH18193 (Or.inl (G_ne gq25 gq28 (by decide)))).symm
        have m18219 := m18165.trans (Wr.neI wH18193 (Or.inl (G_ne gq26 gq28 (by decide)))).symm
        have m18220 := m18166.trans (Wr.neI wH18193 (Or.inl (G_ne gq27 gq28 (by decide)))).symm
        have m18222 := m18147.trans (Wr.neR wH18193 (Or.inl (G_ne ga0 gq28 (by decide)))).symm
        have m18223 := m18169.trans (Wr.neR wH18193 (Or.inl (G_ne ga0 gq28 (by decide)))).symm
        have m18224 := m18170.trans (Wr.neR wH18193 (Or.inl (G_ne ga0 gq28 (by decide)))).symm
        have m18225 := m18171.trans (Wr.neR wH18193 (Or.inl (G_ne ga0 gq28 (by decide)))).symm
        have m18226 := m18172.trans (Wr.neR wH18193 (Or.inl (G_ne ga0 gq28 (by decide)))).symm
        have m18227 := m18173.trans (Wr.neR wH18193 (Or.inl (G_ne ga0 gq28 (by decide)))).symm
        have m18228 := m18174.trans (Wr.neR wH18193 (Or.inl (G_ne ga0 gq28 (by decide)))).symm
        have m18229 := m18175.trans (Wr.neR wH18193 (Or.inl (G_ne ga0 gq28 (by decide)))).symm
        have m18230 := m18176.trans (Wr.neR wH18193 (Or.inl (G_ne ga0 gq28 (by decide)))).symm
        have m18231 := m18177.trans (Wr.neR wH18193 (Or.inl (G_ne ga0 gq28 (by decide)))).symm
        have m18232 := m18178.trans (Wr.neR wH18193 (Or.inl (G_ne ga0 gq28 (by decide)))).symm
        have m18233 := m18179.trans (Wr.neI wH18193 (Or.inl (G_ne ga0 gq28 (by decide)))).symm
        have m18234 := ex18146.trans (Wr.neI wH18193 (Or.inl (G_ne ga0 gq28 (by decide)))).symm
        have m18235 := Wr.I wH18193
        have m18235 := m18235.symm
        clear b18154 b18155 b18156 b18157 b18158 b18159 b18160 b18161 b18162 b18163 b18181 b18182 b18183 b18184 b18185 b18186 b18187 b18188 b18189 b18190 b18191 b18192 ex18146 g18148 hTH18144 m18147 m18164 m18165 m18166 m18167 m18169 m18170 m18171 m18172 m18173 m18174 m18175 m18176 m18177 m18178 m18179 mf18180
        refine lv_aload_n hx hb dX10_keepsTexts_102 rfl (lv_at hl17860 0 rfl) ?_
        refine x_gr C hTH18193 (ci := 10) (k := 29) rfl inX10 (by decide) wF_X10_74 ga0 rg_112 rfl dX10_keepsTexts_103 (fun q18236 eq18236 gq18236 => ?_)
        have uq18236 : q29 = q18236 := (m18228).trans eq18236.symm
        subst uq18236
        clear eq18236
        refine lv_iload_n hx hb dX10_keepsTexts_106 rfl (lv_at hl17860 1 rfl) ?_
        refine lv_aload_n hx hb dX10_keepsTexts_107 rfl (lv_at hl17860 0 rfl) ?_
        refine lv_aload_n hx hb dX10_keepsTexts_108 rfl (lv_at hl17860 0 rfl) ?_
        refine x_gr C hTH18193 (ci := 10) (k := 29) rfl inX10 (by decide) wF_X10_74 ga0 rg_112 rfl dX10_keepsTexts_109 (fun q18237 eq18237 gq18237 => ?_)
        have uq18237 : q29 = q18237 := (m18228).trans eq18237.symm
        subst uq18237
        clear eq18237
        refine lv_iload_n hx hb dX10_keepsTexts_112 rfl (lv_at hl17860 1 rfl) ?_
        refine x_ai C hTH18193 gq29 rg_133 ⟨bx17861.1, Int.lt_of_le_of_lt bx17861.2 (by decide)⟩ dX10_keepsTexts_113 (fun x18238 ex18238 bx18238 => ?_)
        refine x_V (As := [.int x18238]) (rest := [.int x17861, .ref q29]) C (a_X10_kept l K G H18193 (x18238) (x18146) (tk) hTH18193 ga0 giq m18222 m18234 m18233 g18195 (by and_intros <;> first | assumption | omega)) yo_X10_kept wM_X10_473 ⟨⟨by decide, by decide⟩, by decide, by decide⟩ (x_rv C hTH18193 (ci := 10) rfl ga0 rg_112) rfl hl17860.1 rfl (Nat.le_of_ble_eq_true rfl) dX10_keepsTexts_114 hSH18193 (AE_sub (fun _ _ => rfl) (by decide) hSH18193.1) (fun vH18239 H18239 locsH18239 pH18239 zH18239 kH18239 hSH18239 => ?_)
        obtain ⟨x18240, x18241, hvH18239, ex18241, hrH18239, m18242, g18243, mf18244, m18245, m18246, m18247, m18248, hTH18239⟩ := pH18239
        subst hvH18239
        clear zH18239
        replace m18242 := EQN.mk m18242
        have b18249 : UN (tk.toInt ≠ 0) (fun k => fI H18239 q24 k) (fun k => fI s.heap q24 k) := UN.congr (fun j => fI_kept (x_lt hTH18193 kH18239 gq24 (by decide))) b18196
        have b18250 : UN (tk.toInt ≠ 0) (fun k => fI H18239 q25 k) (fun k => fI s.heap q25 k) := UN.congr (fun j => fI_kept (x_lt hTH18193 kH18239 gq25 (by decide))) b18197
        have b18251 : UN (tk.toInt ≠ 0) (fun k => fI H18239 q26 k) (fun k => fI s.heap q26 k) := UN.congr (fun j => fI_kept (x_lt hTH18193 kH18239 gq26 (by decide))) b18198
        have b18252 : UN (tk.toInt ≠ 0) (fun k => fI H18239 q27 k) (fun k => fI s.heap q27 k) := UN.congr (fun j => fI_kept (x_lt hTH18193 kH18239 gq27 (by decide))) b18199
        have b18253 : UN (tk.toInt ≠ 0) (fun k => fI H18239 q28 k) (fun k => fI s.heap q28 k) := UN.congr (fun j => fI_kept (x_lt hTH18193 kH18239 gq28 (by decide))) b18200
        have b18254 : UN (tk.toInt ≠ 0) (fun k => fI H18239 q29 k) (fun k => fI s.heap q29 k) := UN.congr (fun j => fI_kept (x_lt hTH18193 kH18239 gq29 (by decide))) b18201
        have b18255 : UN (tk.toInt ≠ 0) (fun k => fI H18239 q30 k) (fun k => fI s.heap q30 k) := UN.congr (fun j => fI_kept (x_lt hTH18193 kH18239 gq30 (by decide))) b18202
        have b18256 : UN (tk.toInt ≠ 0) (fun k => fI H18239 q31 k) (fun k => fI s.heap q31 k) := UN.congr (fun j => fI_kept (x_lt hTH18193 kH18239 gq31 (by decide))) b18203
        have b18257 : UN (tk.toInt ≠ 0) (fun k => fI H18239 q32 k) (fun k => fI s.heap q32 k) := UN.congr (fun j => fI_kept (x_lt hTH18193 kH18239 gq32 (by decide))) b18204
        have b18258 : UN (tk.toInt ≠ 0) (fun k => fI H18239 q33 k) (fun k => fI s.heap q33 k) := UN.congr (fun j => fI_kept (x_lt hTH18193 kH18239 gq33 (by decide))) b18205
        have m18259 := (m18218).trans (fI_kept (x_lt hTH18193 kH18239 gq25 (by decide))).symm
        have m18260 := (m18219).trans (fI_kept (x_lt hTH18193 kH18239 gq26 (by decide))).symm
        have m18261 := (m18220).trans (fI_kept (x_lt hTH18193 kH18239 gq27 (by decide))).symm
        have m18262 := (m18235).trans (fI_kept (x_lt hTH18193 kH18239 gq28 (by decide))).symm
        have m18263 := (ex18238).trans (fI_kept (x_lt hTH18193 kH18239 gq29 (by decide))).symm
        have m18264 := (m18222).trans (MF.r mf18244 (k := 73) (by decide) (by decide)).symm
        have m18265 := (m18223).trans (MF.r mf18244 (k := 24) (by decide) (by decide)).symm
        have m18266 := (m18224).trans (MF.r mf18244 (k := 25) (by decide) (by decide)).symm
        have m18267 := (m18225).trans (MF.r mf18244 (k := 26) (by decide) (by decide)).symm
        have m18268 := (m18226).trans (MF.r mf18244 (k := 27) (by decide) (by decide)).symm
        have m18269 := (m18227).trans (MF.r mf18244 (k := 28) (by decide) (by decide)).symm
        have m18270 := (m18228).trans (MF.r mf18244 (k := 29) (by decide) (by decide)).symm
        have m18271 := (m18229).trans (MF.r mf18244 (k := 30) (by decide) (by decide)).symm
        have m18272 := (m18230).trans (MF.r mf18244 (k := 31) (by decide) (by decide)).symm
        have m18273 := (m18231).trans (MF.r mf18244 (k := 32) (by decide) (by decide)).symm
        have m18274 := (m18232).trans (MF.r mf18244 (k := 33) (by decide) (by decide)).symm
        have m18275 := (m18233).trans (MF.i mf18244 (k := 71) (by decide) (by decide)).symm
        have mf18276 : MF K s.heap H18239 a0 [72] := MF.trans mf18194 mf18244 (by decide)
        have bx18241 := ty_fi (x := x18241) (k := 72) ex18241 hTH18239 ga0 rg_112 rfl
        have ce_x18146 := i_cl (x := x18146) bx18146.1
        have e_ : x18146.toNatClampNeg = 8918 + 7 * x17861.toNatClampNeg := by omega
        have k3e_ := m18247
        rw [e_] at k3e_
        have b18277 : UN (tk.toInt = 0) (fun k => fI H18239 iq k) (fun k => fI s.heap iq k) := UN.tr m18248 b18206
        have b18278 : FB (fun k => fI H18239 iq k) (fun k => fI s.heap iq k) (8908) := FB.wr b18207 k3e_ (fun j hj => Nat.ne_of_lt (Nat.lt_of_lt_of_le hj (Nat.le_trans (by decide : 8908 ≤ 8918) (Nat.le_add_right _ _))))
        have b18279 : EQ (fun k => fI H18239 q24 k) (fun k => fI H18239 iq k) (8908) (1) (6) := EQ.wr (EQ.congr (w1 := fun k => fI H18193 iq k) (fun j => fI_kept (x_lt hTH18193 kH18239 gq24 (by decide))) (fun _ => rfl) b18208) k3e_ (fun j hj => nE_8908_1_6_8918_7 hj)
        have b18280 : EQ (fun k => fI H18239 q25 k) (fun k => fI H18239 iq k) (8914) (7) (x17861.toNatClampNeg + 1) := EQ.wr (EQ.congr (w1 := fun k => fI H18193 iq k) (fun j => fI_kept (x_lt hTH18193 kH18239 gq25 (by decide))) (fun _ => rfl) b18209) k3e_ (fun j hj => nE_8914_7_i1_8918_7 hj)
        have b18281 : EQ (fun k => fI H18239 q26 k) (fun k => fI H18239 iq k) (8915) (7) (x17861.toNatClampNeg + 1) := EQ.wr (EQ.congr (w1 := fun k => fI H18193 iq k) (fun j => fI_kept (x_lt hTH18193 kH18239 gq26 (by decide))) (fun _ => rfl) b18210) k3e_ (fun j hj => nE_8915_7_i1_8918_7 hj)
        have b18282 : EQ (fun k => fI H18239 q27 k) (fun k => fI H18239 iq k) (8916) (7) (x17861.toNatClampNeg + 1) := EQ.wr (EQ.congr (w1 := fun k => fI H18193 iq k) (fun j => fI_kept (x_lt hTH18193 kH18239 gq27 (by decide))) (fun _ => rfl) b18211) k3e_ (fun j hj => nE_8916_7_i1_8918_7 hj)
        have b18283 : EQ (fun k => fI H18239 q28 k) (fun k => fI H18239 iq k) (8917) (7) (x17861.toNatClampNeg + 1) := EQ.wr (EQ.congr (w1 := fun k => fI H18193 iq k) (fun j => fI_kept (x_lt hTH18193 kH18239 gq28 (by decide))) (fun _ => rfl) b18212) k3e_ (fun j hj => nE_8917_7_i1_8918_7 hj)
        have b18284 : EQ (fun k => fI H18239 q29 k) (fun k => fI H18239 iq k) (8918) (7) (x17861.toNatClampNeg) := EQ.wr (EQ.congr (w1 := fun k => fI H18193 iq k) (fun j => fI_kept (x_lt hTH18193 kH18239 gq29 (by decide))) (fun _ => rfl) b18213) k3e_ (fun j hj => nE_8918_7_i_8918_7 hj)
        have b18285 : EQ (fun k => fI H18239 q30 k) (fun k => fI H18239 iq k) (8919) (7) (x17861.toNatClampNeg) := EQ.wr (EQ.congr (w1 := fun k => fI H18193 iq k) (fun j => fI_kept (x_lt hTH18193 kH18239 gq30 (by decide))) (fun _ => rfl) b18214) k3e_ (fun j hj => nE_8919_7_i_8918_7 hj)
        have b18286 : EQ (fun k => fI H18239 q31 k) (fun k => fI H18239 iq k) (8920) (7) (x17861.toNatClampNeg) := EQ.wr (EQ.congr (w1 := fun k => fI H18193 iq k) (fun j => fI_kept (x_lt hTH18193 kH18239 gq31 (by decide))) (fun _ => rfl) b18215) k3e_ (fun j hj => nE_8920_7_i_8918_7 hj)
        have b18287 : EQ (fun k => fI H18239 q32 k) (fun k => fI H18239 iq k) (9586) (2) (0) := EQ.wr (EQ.congr (w1 := fun k => fI H18193 iq k) (fun j => fI_kept (x_lt hTH18193 kH18239 gq32 (by decide))) (fun _ => rfl) b18216) k3e_ (fun j hj => nE_9586_2_0_8918_7 hj)
        have b18288 : EQ (fun k => fI H18239 q33 k) (fun k => fI H18239 iq k) (9587) (2) (0) := EQ.wr (EQ.congr (w1 := fun k => fI H18193 iq k) (fun j => fI_kept (x_lt hTH18193 kH18239 gq33 (by decide))) (fun _ => rfl) b18217) k3e_ (fun j hj => nE_9587_2_0_8918_7 hj)
        clear b18196 b18197 b18198 b18199 b18200 b18201 b18202 b18203 b18204 b18205 b18206 b18207 b18208 b18209 b18210 b18211 b18212 b18213 b18214 b18215 b18216 b18217 ex18238 m18218 m18219 m18220 m18222 m18223 m18224 m18225 m18226 m18227 m18228 m18229 m18230 m18231 m18232 m18233 m18234 m18235
        clear m18247 m18248 k3e_ e_
        have bx18240 : 0 ≤ x18240.toInt ∧ x18240.toInt ≤ 500 := kr (fun h0 => by have hiw := (hy0 h0); exact kr0 (w := fun k => fI H18239 iq k) m18245 (p := 8918 + 7 * x17861.toNatClampNeg) (by omega) (b18277 h0) ((hiw.2.2.2.2.1 x17861.toNatClampNeg (by omega)).2.1)) m18246 (by omega)
        refine W.eq (g2 := F0 m 117 ls17859 [.int x18240, .int x17861, .ref q29]) rfl ?_
        refine x_iast C hTH18239 hSH18239 gq29 rg_133 bx17861.1 (Int.lt_of_le_of_lt bx17861.2 (by decide)) ⟨by have := i_rng x18240; omega, by have := i_rng x18240; omega⟩ (AE_in gq29 (by decide)) dX10_keepsTexts_117 (fun H18289 locsH18289 hTH18289 hSH18289 wH18289 => ?_)
        have mf18290 : MF K s.heap H18289 a0 [72] := MF.arr wH18289 (G_ne ga0 gq29 (by decide)) mf18276
        have g18291 : WD (avw K H18289 a0) := WD.congr (fun k hk j => av_arr hTH18239 ga0 wH18289 gq29 (by decide) (WD_ok 133 (by decide) k hk)) g18243
        have b18292 : UN (tk.toInt ≠ 0) (fun k => fI H18289 q24 k) (fun k => fI s.heap q24 k) := UN.congr (fun j => Wr.neI wH18289 (Or.inl (G_ne gq24 gq29 (by decide)))) b18249
        have b18293 : UN (tk.toInt ≠ 0) (fun k => fI H18289 q25 k) (fun k => fI s.heap q25 k) := UN.congr (fun j => Wr.neI wH18289 (Or.inl (G_ne gq25 gq29 (by decide)))) b18250
        have b18294 : UN (tk.toInt ≠ 0) (fun k => fI H18289 q26 k) (fun k => fI s.heap q26 k) := UN.congr (fun j => Wr.neI wH18289 (Or.inl (G_ne gq26 gq29 (by decide)))) b18251
        have b18295 : UN (tk.toInt ≠ 0) (fun k => fI H18289 q27 k) (fun k => fI s.heap q27 k) := UN.congr (fun j => Wr.neI wH18289 (Or.inl (G_ne gq27 gq29 (by decide)))) b18252
        have b18296 : UN (tk.toInt ≠ 0) (fun k => fI H18289 q28 k) (fun k => fI s.heap q28 k) := UN.congr (fun j => Wr.neI wH18289 (Or.inl (G_ne gq28 gq29 (by decide)))) b18253
        have b18297 : UN (tk.toInt ≠ 0) (fun k => fI H18289 q29 k) (fun k => fI s.heap q29 k) := UN.st b18254 (i := x17861.toNatClampNeg) (fun hc => (m18246 hc).trans m18263) (Wr.I wH18289) (fun j hj => Wr.neI wH18289 (Or.inr hj))
        have b18298 : UN (tk.toInt ≠ 0) (fun k => fI H18289 q30 k) (fun k => fI s.heap q30 k) := UN.congr (fun j => Wr.neI wH18289 (Or.inl (G_ne gq30 gq29 (by decide)))) b18255
        have b18299 : UN (tk.toInt ≠ 0) (fun k => fI H18289 q31 k) (fun k => fI s.heap q31 k) := UN.congr (fun j => Wr.neI wH18289 (Or.inl (G_ne gq31 gq29 (by decide)))) b18256
        have b18300 : UN (tk.toInt ≠ 0) (fun k => fI H18289 q32 k) (fun k => fI s.heap q32 k) := UN.congr (fun j => Wr.neI wH18289 (Or.inl (G_ne gq32 gq29 (by decide)))) b18257
        have b18301 : UN (tk.toInt ≠ 0) (fun k => fI H18289 q33 k) (fun k => fI s.heap q33 k) := UN.congr (fun j => Wr.neI wH18289 (Or.inl (G_ne gq33 gq29 (by decide)))) b18258
        have b18302 : UN (tk.toInt = 0) (fun k => fI H18289 iq k) (fun k => fI s.heap iq k) := UN.congr (fun j => Wr.neI wH18289 (Or.inl (G_ne giq gq29 (by decide)))) b18277
        have b18303 : FB (fun k => fI H18289 iq k) (fun k => fI s.heap iq k) (8908) := FB.congr (fun j => Wr.neI wH18289 (Or.inl (G_ne giq gq29 (by decide)))) b18278
        have b18304 : EQ (fun k => fI H18289 q24 k) (fun k => fI H18289 iq k) (8908) (1) (6) := EQ.congr (fun j => Wr.neI wH18289 (Or.inl (G_ne gq24 gq29 (by decide)))) (fun j => Wr.neI wH18289 (Or.inl (G_ne giq gq29 (by decide)))) b18279
        have b18305 : EQ (fun k => fI H18289 q25 k) (fun k => fI H18289 iq k) (8914) (7) (x17861.toNatClampNeg + 1) := EQ.congr (fun j => Wr.neI wH18289 (Or.inl (G_ne gq25 gq29 (by decide)))) (fun j => Wr.neI wH18289 (Or.inl (G_ne giq gq29 (by decide)))) b18280
        have b18306 : EQ (fun k => fI H18289 q26 k) (fun k => fI H18289 iq k) (8915) (7) (x17861.toNatClampNeg + 1) := EQ.congr (fun j => Wr.neI wH18289 (Or.inl (G_ne gq26 gq29 (by decide)))) (fun j => Wr.neI wH18289 (Or.inl (G_ne giq gq29 (by decide)))) b18281
        have b18307 : EQ (fun k => fI H18289 q27 k) (fun k => fI H18289 iq k) (8916) (7) (x17861.toNatClampNeg + 1) := EQ.congr (fun j => Wr.neI wH18289 (Or.inl (G_ne gq27 gq29 (by decide)))) (fun j => Wr.neI wH18289 (Or.inl (G_ne giq gq29 (by decide)))) b18282
        have b18308 : EQ (fun k => fI H18289 q28 k) (fun k => fI H18289 iq k) (8917) (7) (x17861.toNatClampNeg + 1) := EQ.congr (fun j => Wr.neI wH18289 (Or.inl (G_ne gq28 gq29 (by decide)))) (fun j => Wr.neI wH18289 (Or.inl (G_ne giq gq29 (by decide)))) b18283
        have b18309 : EQ (fun k => fI H18289 q29 k) (fun k => fI H18289 iq k) (8918) (7) (x17861.toNatClampNeg + 1) := EQ.st b18284 (i := x17861.toNatClampNeg) (t := x18146.toNatClampNeg) (by omega) m18245 (by omega) (Wr.I wH18289) (fun j hj => Wr.neI wH18289 (Or.inr hj)) (fun j => Wr.neI wH18289 (Or.inl (G_ne giq gq29 (by decide))))
        have b18310 : EQ (fun k => fI H18289 q30 k) (fun k => fI H18289 iq k) (8919) (7) (x17861.toNatClampNeg) := EQ.congr (fun j => Wr.neI wH18289 (Or.inl (G_ne gq30 gq29 (by decide)))) (fun j => Wr.neI wH18289 (Or.inl (G_ne giq gq29 (by decide)))) b18285
        have b18311 : EQ (fun k => fI H18289 q31 k) (fun k => fI H18289 iq k) (8920) (7) (x17861.toNatClampNeg) := EQ.congr (fun j => Wr.neI wH18289 (Or.inl (G_ne gq31 gq29 (by decide)))) (fun j => Wr.neI wH18289 (Or.inl (G_ne giq gq29 (by decide)))) b18286
        have b18312 : EQ (fun k => fI H18289 q32 k) (fun k => fI H18289 iq k) (9586) (2) (0) := EQ.congr (fun j => Wr.neI wH18289 (Or.inl (G_ne gq32 gq29 (by decide)))) (fun j => Wr.neI wH18289 (Or.inl (G_ne giq gq29 (by decide)))) b18287
        have b18313 : EQ (fun k => fI H18289 q33 k) (fun k => fI H18289 iq k) (9587) (2) (0) := EQ.congr (fun j => Wr.neI wH18289 (Or.inl (G_ne gq33 gq29 (by decide)))) (fun j => Wr.neI wH18289 (Or.inl (G_ne giq gq29 (by decide)))) b18288
        have m18314 := m18259.trans (Wr.neI wH18289 (Or.inl (G_ne gq25 gq29 (by decide)))).symm
        have m18315 := m18260.trans (Wr.neI wH18289 (Or.inl (G_ne gq26 gq29 (by decide)))).symm
        have m18316 := m18261.trans (Wr.neI wH18289 (Or.inl (G_ne gq27 gq29 (by decide)))).symm
        have m18317 := m18262.trans (Wr.neI wH18289 (Or.inl (G_ne gq28 gq29 (by decide)))).symm
        have m18319 := m18242.trans (Wr.neR wH18289 (Or.inl (G_ne ga0 gq29 (by decide)))).symm
        have m18320 := m18265.trans (Wr.neR wH18289 (Or.inl (G_ne ga0 gq29 (by decide)))).symm
        have m18321 := m18266.trans (Wr.neR wH18289 (Or.inl (G_ne ga0 gq29 (by decide)))).symm
        have m18322 := m18267.trans (Wr.neR wH18289 (Or.inl (G_ne ga0 gq29 (by decide)))).symm
        have m18323 := m18268.trans (Wr.neR wH18289 (Or.inl (G_ne ga0 gq29 (by decide)))).symm
        have m18324 := m18269.trans (Wr.neR wH18289 (Or.inl (G_ne ga0 gq29 (by decide)))).symm
        have m18325 := m18270.trans (Wr.neR wH18289 (Or.inl (G_ne ga0 gq29 (by decide)))).symm
        have m18326 := m18271.trans (Wr.neR wH18289 (Or.inl (G_ne ga0 gq29 (by decide)))).symm
        have m18327 := m18272.trans (Wr.neR wH18289 (Or.inl (G_ne ga0 gq29 (by decide)))).symm
        have m18328 := m18273.trans (Wr.neR wH18289 (Or.inl (G_ne ga0 gq29 (by decide)))).symm
        have m18329 := m18274.trans (Wr.neR wH18289 (Or.inl (G_ne ga0 gq29 (by decide)))).symm
        have m18330 := m18275.trans (Wr.neI wH18289 (Or.inl (G_ne ga0 gq29 (by decide)))).symm
        have m18331 := ex18241.trans (Wr.neI wH18289 (Or.inl (G_ne ga0 gq29 (by decide)))).symm
        have m18332 := Wr.I wH18289
        have m18332 := m18332.symm
        clear b18249 b18250 b18251 b18252 b18253 b18254 b18255 b18256 b18257 b18258 b18277 b18278 b18279 b18280 b18281 b18282 b18283 b18284 b18285 b18286 b18287 b18288 ex18241 g18243 hTH18239 m18242 m18259 m18260 m18261 m18262 m18263 m18265 m18266 m18267 m18268 m18269 m18270 m18271 m18272 m18273 m18274 m18275 mf18276
        refine lv_aload_n hx hb dX10_keepsTexts_118 rfl (lv_at hl17860 0 rfl) ?_
        refine x_gr C hTH18289 (ci := 10) (k := 30) rfl inX10 (by decide) wF_X10_77 ga0 rg_112 rfl dX10_keepsTexts_119 (fun q18333 eq18333 gq18333 => ?_)
        have uq18333 : q30 = q18333 := (m18326).trans eq18333.symm
        subst uq18333
        clear eq18333
        refine lv_iload_n hx hb dX10_keepsTexts_122 rfl (lv_at hl17860 1 rfl) ?_
        refine lv_aload_n hx hb dX10_keepsTexts_123 rfl (lv_at hl17860 0 rfl) ?_
        refine lv_aload_n hx hb dX10_keepsTexts_124 rfl (lv_at hl17860 0 rfl) ?_
        refine x_gr C hTH18289 (ci := 10) (k := 30) rfl inX10 (by decide) wF_X10_77 ga0 rg_112 rfl dX10_keepsTexts_125 (fun q18334 eq18334 gq18334 => ?_)
        have uq18334 : q30 = q18334 := (m18326).trans eq18334.symm
        subst uq18334
        clear eq18334
        refine lv_iload_n hx hb dX10_keepsTexts_128 rfl (lv_at hl17860 1 rfl) ?_
        refine x_ai C hTH18289 gq30 rg_134 ⟨bx17861.1, Int.lt_of_le_of_lt bx17861.2 (by decide)⟩ dX10_keepsTexts_129 (fun x18335 ex18335 bx18335 => ?_)
        refine x_V (As := [.int x18335]) (rest := [.int x17861, .ref q30]) C (a_X10_kept l K G H18289 (x18335) (x18241) (tk) hTH18289 ga0 giq m18319 m18331 m18330 g18291 (by and_intros <;> first | assumption | omega)) yo_X10_kept wM_X10_473 ⟨⟨by decide, by decide⟩, by decide, by decide⟩ (x_rv C hTH18289 (ci := 10) rfl ga0 rg_112) rfl hl17860.1 rfl (Nat.le_of_ble_eq_true rfl) dX10_keepsTexts_130 hSH18289 (AE_sub (fun _ _ => rfl) (by decide) hSH18289.1) (fun vH18336 H18336 locsH18336 pH18336 zH18336 kH18336 hSH18336 => ?_)
        obtain ⟨x18337, x18338, hvH18336, ex18338, hrH18336, m18339, g18340, mf18341, m18342, m18343, m18344, m18345, hTH18336⟩ := pH18336
        subst hvH18336
        clear zH18336
        replace m18339 := EQN.mk m18339
        have b18346 : UN (tk.toInt ≠ 0) (fun k => fI H18336 q24 k) (fun k => fI s.heap q24 k) := UN.congr (fun j => fI_kept (x_lt hTH18289 kH18336 gq24 (by decide))) b18292
        have b18347 : UN (tk.toInt ≠ 0) (fun k => fI H18336 q25 k) (fun k => fI s.heap q25 k) := UN.congr (fun j => fI_kept (x_lt hTH18289 kH18336 gq25 (by decide))) b18293
        have b18348 : UN (tk.toInt ≠ 0) (fun k => fI H18336 q26 k) (fun k => fI s.heap q26 k) := UN.congr (fun j => fI_kept (x_lt hTH18289 kH18336 gq26 (by decide))) b18294
        have b18349 : UN (tk.toInt ≠ 0) (fun k => fI H18336 q27 k) (fun k => fI s.heap q27 k) := UN.congr (fun j => fI_kept (x_lt hTH18289 kH18336 gq27 (by decide))) b18295
        have b18350 : UN (tk.toInt ≠ 0) (fun k => fI H18336 q28 k) (fun k => fI s.heap q28 k) := UN.congr (fun j => fI_kept (x_lt hTH18289 kH18336 gq28 (by decide))) b18296
        have b18351 : UN (tk.toInt ≠ 0) (fun k => fI H18336 q29 k) (fun k => fI s.heap q29 k) := UN.congr (fun j => fI_kept (x_lt hTH18289 kH18336 gq29 (by decide))) b18297
        have b18352 : UN (tk.toInt ≠ 0) (fun k => fI H18336 q30 k) (fun k => fI s.heap q30 k) := UN.congr (fun j => fI_kept (x_lt hTH18289 kH18336 gq30 (by decide))) b18298
        have b18353 : UN (tk.toInt ≠ 0) (fun k => fI H18336 q31 k) (fun k => fI s.heap q31 k) := UN.congr (fun j => fI_kept (x_lt hTH18289 kH18336 gq31 (by decide))) b18299
        have b18354 : UN (tk.toInt ≠ 0) (fun k => fI H18336 q32 k) (fun k => fI s.heap q32 k) := UN.congr (fun j => fI_kept (x_lt hTH18289 kH18336 gq32 (by decide))) b18300
        have b18355 : UN (tk.toInt ≠ 0) (fun k => fI H18336 q33 k) (fun k => fI s.heap q33 k) := UN.congr (fun j => fI_kept (x_lt hTH18289 kH18336 gq33 (by decide))) b18301
        have m18356 := (m18314).trans (fI_kept (x_lt hTH18289 kH18336 gq25 (by decide))).symm
        have m18357 := (m18315).trans (fI_kept (x_lt hTH18289 kH18336 gq26 (by decide))).symm
        have m18358 := (m18316).trans (fI_kept (x_lt hTH18289 kH18336 gq27 (by decide))).symm
        have m18359 := (m18317).trans (fI_kept (x_lt hTH18289 kH18336 gq28 (by decide))).symm
        have m18360 := (m18332).trans (fI_kept (x_lt hTH18289 kH18336 gq29 (by decide))).symm
        have m18361 := (ex18335).trans (fI_kept (x_lt hTH18289 kH18336 gq30 (by decide))).symm
        have m18362 := (m18319).trans (MF.r mf18341 (k := 73) (by decide) (by decide)).symm
        have m18363 := (m18320).trans (MF.r mf18341 (k := 24) (by decide) (by decide)).symm
        have m18364 := (m18321).trans (MF.r mf18341 (k := 25) (by decide) (by decide)).symm
        have m18365 := (m18322).trans (MF.r mf18341 (k := 26) (by decide) (by decide)).symm
        have m18366 := (m18323).trans (MF.r mf18341 (k := 27) (by decide) (by decide)).symm
        have m18367 := (m18324).trans (MF.r mf18341 (k := 28) (by decide) (by decide)).symm
        have m18368 := (m18325).trans (MF.r mf18341 (k := 29) (by decide) (by decide)).symm
        have m18369 := (m18326).trans (MF.r mf18341 (k := 30) (by decide) (by decide)).symm
        have m18370 := (m18327).trans (MF.r mf18341 (k := 31) (by decide) (by decide)).symm
        have m18371 := (m18328).trans (MF.r mf18341 (k := 32) (by decide) (by decide)).symm
        have m18372 := (m18329).trans (MF.r mf18341 (k := 33) (by decide) (by decide)).symm
        have m18373 := (m18330).trans (MF.i mf18341 (k := 71) (by decide) (by decide)).symm
        have mf18374 : MF K s.heap H18336 a0 [72] := MF.trans mf18290 mf18341 (by decide)
        have bx18338 := ty_fi (x := x18338) (k := 72) ex18338 hTH18336 ga0 rg_112 rfl
        have ce_x18241 := i_cl (x := x18241) bx18241.1
        have e_ : x18241.toNatClampNeg = 8919 + 7 * x17861.toNatClampNeg := by omega
        have k3e_ := m18344
        rw [e_] at k3e_
        have b18375 : UN (tk.toInt = 0) (fun k => fI H18336 iq k) (fun k => fI s.heap iq k) := UN.tr m18345 b18302
        have b18376 : FB (fun k => fI H18336 iq k) (fun k => fI s.heap iq k) (8908) := FB.wr b18303 k3e_ (fun j hj => Nat.ne_of_lt (Nat.lt_of_lt_of_le hj (Nat.le_trans (by decide : 8908 ≤ 8919) (Nat.le_add_right _ _))))
        have b18377 : EQ (fun k => fI H18336 q24 k) (fun k => fI H18336 iq k) (8908) (1) (6) := EQ.wr (EQ.congr (w1 := fun k => fI H18289 iq k) (fun j => fI_kept (x_lt hTH18289 kH18336 gq24 (by decide))) (fun _ => rfl) b18304) k3e_ (fun j hj => nE_8908_1_6_8919_7 hj)
        have b18378 : EQ (fun k => fI H18336 q25 k) (fun k => fI H18336 iq k) (8914) (7) (x17861.toNatClampNeg + 1) := EQ.wr (EQ.congr (w1 := fun k => fI H18289 iq k) (fun j => fI_kept (x_lt hTH18289 kH18336 gq25 (by decide))) (fun _ => rfl) b18305) k3e_ (fun j hj => nE_8914_7_i1_8919_7 hj)
        have b18379 : EQ (fun k => fI H18336 q26 k) (fun k => fI H18336 iq k) (8915) (7) (x17861.toNatClampNeg + 1) := EQ.wr (EQ.congr (w1 := fun k => fI H18289 iq k) (fun j => fI_kept (x_lt hTH18289 kH18336 gq26 (by decide))) (fun _ => rfl) b18306) k3e_ (fun j hj => nE_8915_7_i1_8919_7 hj)
        have b18380 : EQ (fun k => fI H18336 q27 k) (fun k => fI H18336 iq k) (8916) (7) (x17861.toNatClampNeg + 1) := EQ.wr (EQ.congr (w1 := fun k => fI H18289 iq k) (fun j => fI_kept (x_lt hTH18289 kH18336 gq27 (by decide))) (fun _ => rfl) b18307) k3e_ (fun j hj => nE_8916_7_i1_8919_7 hj)
        have b18381 : EQ (fun k => fI H18336 q28 k) (fun k => fI H18336 iq k) (8917) (7) (x17861.toNatClampNeg + 1) := EQ.wr (EQ.congr (w1 := fun k => fI H18289 iq k) (fun j => fI_kept (x_lt hTH18289 kH18336 gq28 (by decide))) (fun _ => rfl) b18308) k3e_ (fun j hj => nE_8917_7_i1_8919_7 hj)
        have b18382 : EQ (fun k => fI H18336 q29 k) (fun k => fI H18336 iq k) (8918) (7) (x17861.toNatClampNeg + 1) := EQ.wr (EQ.congr (w1 := fun k => fI H18289 iq k) (fun j => fI_kept (x_lt hTH18289 kH18336 gq29 (by decide))) (fun _ => rfl) b18309) k3e_ (fun j hj => nE_8918_7_i1_8919_7 hj)
        have b18383 : EQ (fun k => fI H18336 q30 k) (fun k => fI H18336 iq k) (8919) (7) (x17861.toNatClampNeg) := EQ.wr (EQ.congr (w1 := fun k => fI H18289 iq k) (fun j => fI_kept (x_lt hTH18289 kH18336 gq30 (by decide))) (fun _ => rfl) b18310) k3e_ (fun j hj => nE_8919_7_i_8919_7 hj)
        have b18384 : EQ (fun k => fI H18336 q31 k) (fun k => fI H18336 iq k) (8920) (7) (x17861.toNatClampNeg) := EQ.wr (EQ.congr (w1 := fun k => fI H18289 iq k) (fun j => fI_kept (x_lt hTH18289 kH18336 gq31 (by decide))) (fun _ => rfl) b18311) k3e_ (fun j hj => nE_8920_7_i_8919_7 hj)
        have b18385 : EQ (fun k => fI H18336 q32 k) (fun k => fI H18336 iq k) (9586) (2) (0) := EQ.wr (EQ.congr (w1 := fun k => fI H18289 iq k) (fun j => fI_kept (x_lt hTH18289 kH18336 gq32 (by decide))) (fun _ => rfl) b18312) k3e_ (fun j hj => nE_9586_2_0_8919_7 hj)
        have b18386 : EQ (fun k => fI H18336 q33 k) (fun k => fI H18336 iq k) (9587) (2) (0) := EQ.wr (EQ.congr (w1 := fun k => fI H18289 iq k) (fun j => fI_kept (x_lt hTH18289 kH18336 gq33 (by decide))) (fun _ => rfl) b18313) k3e_ (fun j hj => nE_9587_2_0_8919_7 hj)
        clear b18292 b18293 b18294 b18295 b18296 b18297 b18298 b18299 b18300 b18301 b18302 b18303 b18304 b18305 b18306 b18307 b18308 b18309 b18310 b18311 b18312 b18313 ex18335 m18314 m18315 m18316 m18317 m18319 m18320 m18321 m18322 m18323 m18324 m18325 m18326 m18327 m18328 m18329 m18330 m18331 m18332
        clear m18344 m18345 k3e_ e_
        have bx18337 : 0 ≤ x18337.toInt ∧ x18337.toInt ≤ 500 := kr (fun h0 => by have hiw := (hy0 h0); exact kr0 (w := fun k => fI H18336 iq k) m18342 (p := 8919 + 7 * x17861.toNatClampNeg) (by omega) (b18375 h0) ((hiw.2.2.2.2.1 x17861.toNatClampNeg (by omega)).2.2.1)) m18343 (by omega)
        refine W.eq (g2 := F0 m 133 ls17859 [.int x18337, .int x17861, .ref q30]) rfl ?_
        refine x_iast C hTH18336 hSH18336 gq30 rg_134 bx17861.1 (Int.lt_of_le_of_lt bx17861.2 (by decide)) ⟨by have := i_rng x18337; omega, by have := i_rng x18337; omega⟩ (AE_in gq30 (by decide)) dX10_keepsTexts_133 (fun H18387 locsH18387 hTH18387 hSH18387 wH18387 => ?_)
        have mf18388 : MF K s.heap H18387 a0 [72] := MF.arr wH18387 (G_ne ga0 gq30 (by decide)) mf18374
        have g18389 : WD (avw K H18387 a0) := WD.congr (fun k hk j => av_arr hTH18336 ga0 wH18387 gq30 (by decide) (WD_ok 134 (by decide) k hk)) g18340
        have b18390 : UN (tk.toInt ≠ 0) (fun k => fI H18387 q24 k) (fun k => fI s.heap q24 k) := UN.congr (fun j => Wr.neI wH18387 (Or.inl (G_ne gq24 gq30 (by decide)))) b18346
        have b18391 : UN (tk.toInt ≠ 0) (fun k => fI H18387 q25 k) (fun k => fI s.heap q25 k) := UN.congr (fun j => Wr.neI wH18387 (Or.inl (G_ne gq25 gq30 (by decide)))) b18347
        have b18392 : UN (tk.toInt ≠ 0) (fun k => fI H18387 q26 k) (fun k => fI s.heap q26 k) := UN.congr (fun j => Wr.neI wH18387 (Or.inl (G_ne gq26 gq30 (by decide)))) b18348
        have b18393 : UN (tk.toInt ≠ 0) (fun k => fI H18387 q27 k) (fun k => fI s.heap q27 k) := UN.congr (fun j => Wr.neI wH18387 (Or.inl (G_ne gq27 gq30 (by decide)))) b18349
        have b18394 : UN (tk.toInt ≠ 0) (fun k => fI H18387 q28 k) (fun k => fI s.heap q28 k) := UN.congr (fun j => Wr.neI wH18387 (Or.inl (G_ne gq28 gq30 (by decide)))) b18350
        have b18395 : UN (tk.toInt ≠ 0) (fun k => fI H18387 q29 k) (fun k => fI s.heap q29 k) := UN.congr (fun j => Wr.neI wH18387 (Or.inl (G_ne gq29 gq30 (by decide)))) b18351
        have b18396 : UN (tk.toInt ≠ 0) (fun k => fI H18387 q30 k) (fun k => fI s.heap q30 k) := UN.st b18352 (i := x17861.toNatClampNeg) (fun hc => (m18343 hc).trans m18361) (Wr.I wH18387) (fun j hj => Wr.neI wH18387 (Or.inr hj))
        have b18397 : UN (tk.toInt ≠ 0) (fun k => fI H18387 q31 k) (fun k => fI s.heap q31 k) := UN.congr (fun j => Wr.neI wH18387 (Or.inl (G_ne gq31 gq30 (by decide)))) b18353
        have b18398 : UN (tk.toInt ≠ 0) (fun k => fI H18387 q32 k) (fun k => fI s.heap q32 k) := UN.congr (fun j => Wr.neI wH18387 (Or.inl (G_ne gq32 gq30 (by decide)))) b18354
        have b18399 : UN (tk.toInt ≠ 0) (fun k => fI H18387 q33 k) (fun k => fI s.heap q33 k) := UN.congr (fun j => Wr.neI wH18387 (Or.inl (G_ne gq33 gq30 (by decide)))) b18355
        have b18400 : UN (tk.toInt = 0) (fun k => fI H18387 iq k) (fun k => fI s.heap iq k) := UN.congr (fun j => Wr.neI wH18387 (Or.inl (G_ne giq gq30 (by decide)))) b18375
        have b18401 : FB (fun k => fI H18387 iq k) (fun k => fI s.heap iq k) (8908) := FB.congr (fun j => Wr.neI wH18387 (Or.inl (G_ne giq gq30 (by decide)))) b18376
        have b18402 : EQ (fun k => fI H18387 q24 k) (fun k => fI H18387 iq k) (8908) (1) (6) := EQ.congr (fun j => Wr.neI wH18387 (Or.inl (G_ne gq24 gq30 (by decide)))) (fun j => Wr.neI wH18387 (Or.inl (G_ne giq gq30 (by decide)))) b18377
        have b18403 : EQ (fun k => fI H18387 q25 k) (fun k => fI H18387 iq k) (8914) (7) (x17861.toNatClampNeg + 1) := EQ.congr (fun j => Wr.neI wH18387 (Or.inl (G_ne gq25 gq30 (by decide)))) (fun j => Wr.neI wH18387 (Or.inl (G_ne giq gq30 (by decide)))) b18378
        have b18404 : EQ (fun k => fI H18387 q26 k) (fun k => fI H18387 iq k) (8915) (7) (x17861.toNatClampNeg + 1) := EQ.congr (fun j => Wr.neI wH18387 (Or.inl (G_ne gq26 gq30 (by decide)))) (fun j => Wr.neI wH18387 (Or.inl (G_ne giq gq30 (by decide)))) b18379
        have b18405 : EQ (fun k => fI H18387 q27 k) (fun k => fI H18387 iq k) (8916) (7) (x17861.toNatClampNeg + 1) := EQ.congr (fun j => Wr.neI wH18387 (Or.inl (G_ne gq27 gq30 (by decide)))) (fun j => Wr.neI wH18387 (Or.inl (G_ne giq gq30 (by decide)))) b18380
        have b18406 : EQ (fun k => fI H18387 q28 k) (fun k => fI H18387 iq k) (8917) (7) (x17861.toNatClampNeg + 1) := EQ.congr (fun j => Wr.neI wH18387 (Or.inl (G_ne gq28 gq30 (by decide)))) (fun j => Wr.neI wH18387 (Or.inl (G_ne giq gq30 (by decide)))) b18381
        have b18407 : EQ (fun k => fI H18387 q29 k) (fun k => fI H18387 iq k) (8918) (7) (x17861.toNatClampNeg + 1) := EQ.congr (fun j => Wr.neI wH18387 (Or.inl (G_ne gq29 gq30 (by decide)))) (fun j => Wr.neI wH18387 (Or.inl (G_ne giq gq30 (by decide)))) b18382
        have b18408 : EQ (fun k => fI H18387 q30 k) (fun k => fI H18387 iq k) (8919) (7) (x17861.toNatClampNeg + 1) := EQ.st b18383 (i := x17861.toNatClampNeg) (t := x18241.toNatClampNeg) (by omega) m18342 (by omega) (Wr.I wH18387) (fun j hj => Wr.neI wH18387 (Or.inr hj)) (fun j => Wr.neI wH18387 (Or.inl (G_ne giq gq30 (by decide))))
        have b18409 : EQ (fun k => fI H18387 q31 k) (fun k => fI H18387 iq k) (8920) (7) (x17861.toNatClampNeg) := EQ.congr (fun j => Wr.neI wH18387 (Or.inl (G_ne gq31 gq30 (by decide)))) (fun j => Wr.neI wH18387 (Or.inl (G_ne giq gq30 (by decide)))) b18384
        have b18410 : EQ (fun k => fI H18387 q32 k) (fun k => fI H18387 iq k) (9586) (2) (0) := EQ.congr (fun j => Wr.neI wH18387 (Or.inl (G_ne gq32 gq30 (by decide)))) (fun j => Wr.neI wH18387 (Or.inl (G_ne giq gq30 (by decide)))) b18385
        have b18411 : EQ (fun k => fI H18387 q33 k) (fun k => fI H18387 iq k) (9587) (2) (0) := EQ.congr (fun j => Wr.neI wH18387 (Or.inl (G_ne gq33 gq30 (by decide)))) (fun j => Wr.neI wH18387 (Or.inl (G_ne giq gq30 (by decide)))) b18386
        have m18412 := m18356.trans (Wr.neI wH18387 (Or.inl (G_ne gq25 gq30 (by decide)))).symm
        have m18413 := m18357.trans (Wr.neI wH18387 (Or.inl (G_ne gq26 gq30 (by decide)))).symm
        have m18414 := m18358.trans (Wr.neI wH18387 (Or.inl (G_ne gq27 gq30 (by decide)))).symm
        have m18415 := m18359.trans (Wr.neI wH18387 (Or.inl (G_ne gq28 gq30 (by decide)))).symm
        have m18416 := m18360.trans (Wr.neI wH18387 (Or.inl (G_ne gq29 gq30 (by decide)))).symm
        have m18418 := m18339.trans (Wr.neR wH18387 (Or.inl (G_ne ga0 gq30 (by decide)))).symm
        have m18419 := m18363.trans (Wr.neR wH18387 (Or.inl (G_ne ga0 gq30 (by decide)))).symm
        have m18420 := m18364.trans (Wr.neR wH18387 (Or.inl (G_ne ga0 gq30 (by decide)))).symm
        have m18421 := m18365.trans (Wr.neR wH18387 (Or.inl (G_ne ga0 gq30 (by decide)))).symm
        have m18422 := m18366.trans (Wr.neR wH18387 (Or.inl (G_ne ga0 gq30 (by decide)))).symm
        have m18423 := m18367.trans (Wr.neR wH18387 (Or.inl (G_ne ga0 gq30 (by decide)))).symm
        have m18424 := m18368.trans (Wr.neR wH18387 (Or.inl (G_ne ga0 gq30 (by decide)))).symm
        have m18425 := m18369.trans (Wr.neR wH18387 (Or.inl (G_ne ga0 gq30 (by decide)))).symm
        have m18426 := m18370.trans (Wr.neR wH18387 (Or.inl (G_ne ga0 gq30 (by decide)))).symm
        have m18427 := m18371.trans (Wr.neR wH18387 (Or.inl (G_ne ga0 gq30 (by decide)))).symm
        have m18428 := m18372.trans (Wr.neR wH18387 (Or.inl (G_ne ga0 gq30 (by decide)))).symm
        have m18429 := m18373.trans (Wr.neI wH18387 (Or.inl (G_ne ga0 gq30 (by decide)))).symm
        have m18430 := ex18338.trans (Wr.neI wH18387 (Or.inl (G_ne ga0 gq30 (by decide)))).symm
        have m18431 := Wr.I wH18387
        have m18431 := m18431.symm
        clear b18346 b18347 b18348 b18349 b18350 b18351 b18352 b18353 b18354 b18355 b18375 b18376 b18377 b18378 b18379 b18380 b18381 b18382 b18383 b18384 b18385 b18386 ex18338 g18340 hTH18336 m18339 m18356 m18357 m18358 m18359 m18360 m18361 m18363 m18364 m18365 m18366 m18367 m18368 m18369 m18370 m18371 m18372 m18373 mf18374
        refine lv_aload_n hx hb dX10_keepsTexts_134 rfl (lv_at hl17860 0 rfl) ?_
        refine x_gr C hTH18387 (ci := 10) (k := 31) rfl inX10 (by decide) wF_X10_80 ga0 rg_112 rfl dX10_keepsTexts_135 (fun q18432 eq18432 gq18432 => ?_)
        have uq18432 : q31 = q18432 := (m18426).trans eq18432.symm
        subst uq18432
        clear eq18432
        refine lv_iload_n hx hb dX10_keepsTexts_138 rfl (lv_at hl17860 1 rfl) ?_
        refine lv_aload_n hx hb dX10_keepsTexts_139 rfl (lv_at hl17860 0 rfl) ?_
        refine lv_aload_n hx hb dX10_keepsTexts_140 rfl (lv_at hl17860 0 rfl) ?_
        refine x_gr C hTH18387 (ci := 10) (k := 31) rfl inX10 (by decide) wF_X10_80 ga0 rg_112 rfl dX10_keepsTexts_141 (fun q18433 eq18433 gq18433 => ?_)
        have uq18433 : q31 = q18433 := (m18426).trans eq18433.symm
        subst uq18433
        clear eq18433
        refine lv_iload_n hx hb dX10_keepsTexts_144 rfl (lv_at hl17860 1 rfl) ?_
        refine x_ai C hTH18387 gq31 rg_135 ⟨bx17861.1, Int.lt_of_le_of_lt bx17861.2 (by decide)⟩ dX10_keepsTexts_145 (fun x18434 ex18434 bx18434 => ?_)
        refine x_V (As := [.int x18434]) (rest := [.int x17861, .ref q31]) C (a_X10_kept l K G H18387 (x18434) (x18338) (tk) hTH18387 ga0 giq m18418 m18430 m18429 g18389 (by and_intros <;> first | assumption | omega)) yo_X10_kept wM_X10_473 ⟨⟨by decide, by decide⟩, by decide, by decide⟩ (x_rv C hTH18387 (ci := 10) rfl ga0 rg_112) rfl hl17860.1 rfl (Nat.le_of_ble_eq_true rfl) dX10_keepsTexts_146 hSH18387 (AE_sub (fun _ _ => rfl) (by decide) hSH18387.1) (fun vH18435 H18435 locsH18435 pH18435 zH18435 kH18435 hSH18435 => ?_)
        obtain ⟨x18436, x18437, hvH18435, ex18437, hrH18435, m18438, g18439, mf18440, m18441, m18442, m18443, m18444, hTH18435⟩ := pH18435
        subst hvH18435
        clear zH18435
        replace m18438 := EQN.mk m18438
        have b18445 : UN (tk.toInt ≠ 0) (fun k => fI H18435 q24 k) (fun k => fI s.heap q24 k) := UN.congr (fun j => fI_kept (x_lt hTH18387 kH18435 gq24 (by decide))) b18390
        have b18446 : UN (tk.toInt ≠ 0) (fun k => fI H18435 q25 k) (fun k => fI s.heap q25 k) := UN.congr (fun j => fI_kept (x_lt hTH18387 kH18435 gq25 (by decide))) b18391
        have b18447 : UN (tk.toInt ≠ 0) (fun k => fI H18435 q26 k) (fun k => fI s.heap q26 k) := UN.congr (fun j => fI_kept (x_lt hTH18387 kH18435 gq26 (by decide))) b18392
        have b18448 : UN (tk.toInt ≠ 0) (fun k => fI H18435 q27 k) (fun k => fI s.heap q27 k) := UN.congr (fun j => fI_kept (x_lt hTH18387 kH18435 gq27 (by decide))) b18393
        have b18449 : UN (tk.toInt ≠ 0) (fun k => fI H18435 q28 k) (fun k => fI s.heap q28 k) := UN.congr (fun j => fI_kept (x_lt hTH18387 kH18435 gq28 (by decide))) b18394
        have b18450 : UN (tk.toInt ≠ 0) (fun k => fI H18435 q29 k) (fun k => fI s.heap q29 k) := UN.congr (fun j => fI_kept (x_lt hTH18387 kH18435 gq29 (by decide))) b18395
        have b18451 : UN (tk.toInt ≠ 0) (fun k => fI H18435 q30 k) (fun k => fI s.heap q30 k) := UN.congr (fun j => fI_kept (x_lt hTH18387 kH18435 gq30 (by decide))) b18396
        have b18452 : UN (tk.toInt ≠ 0) (fun k => fI H18435 q31 k) (fun k => fI s.heap q31 k) := UN.congr (fun j => fI_kept (x_lt hTH18387 kH18435 gq31 (by decide))) b18397
        have b18453 : UN (tk.toInt ≠ 0) (fun k => fI H18435 q32 k) (fun k => fI s.heap q32 k) := UN.congr (fun j => fI_kept (x_lt hTH18387 kH18435 gq32 (by decide))) b18398
        have b18454 : UN (tk.toInt ≠ 0) (fun k => fI H18435 q33 k) (fun k => fI s.heap q33 k) := UN.congr (fun j => fI_kept (x_lt hTH18387 kH18435 gq33 (by decide))) b18399
        have m18455 := (m18412).trans (fI_kept (x_lt hTH18387 kH18435 gq25 (by decide))).symm
        have m18456 := (m18413).trans (fI_kept (x_lt hTH18387 kH18435 gq26 (by decide))).symm
        have m18457 := (m18414).trans (fI_kept (x_lt hTH18387 kH18435 gq27 (by decide))).symm
        have m18458 := (m18415).trans (fI_kept (x_lt hTH18387 kH18435 gq28 (by decide))).symm
        have m18459 := (m18416).trans (fI_kept (x_lt hTH18387 kH18435 gq29 (by decide))).symm
        have m18460 := (m18431).trans (fI_kept (x_lt hTH18387 kH18435 gq30 (by decide))).symm
        have m18461 := (ex18434).trans (fI_kept (x_lt hTH18387 kH18435 gq31 (by decide))).symm
        have m18462 := (m18418).trans (MF.r mf18440 (k := 73) (by decide) (by decide)).symm
        have m18463 := (m18419).trans (MF.r mf18440 (k := 24) (by decide) (by decide)).symm
        have m18464 := (m18420).trans (MF.r mf18440 (k := 25) (by decide) (by decide)).symm
        have m18465 := (m18421).trans (MF.r mf18440 (k := 26) (by decide) (by decide)).symm
        have m18466 := (m18422).trans (MF.r mf18440 (k := 27) (by decide) (by decide)).symm
        have m18467 := (m18423).trans (MF.r mf18440 (k := 28) (by decide) (by decide)).symm
        have m18468 := (m18424).trans (MF.r mf18440 (k := 29) (by decide) (by decide)).symm
        have m18469 := (m18425).trans (MF.r mf18440 (k := 30) (by decide) (by decide)).symm
        have m18470 := (m18426).trans (MF.r mf18440 (k := 31) (by decide) (by decide)).symm
        have m18471 := (m18427).trans (MF.r mf18440 (k := 32) (by decide) (by decide)).symm
        have m18472 := (m18428).trans (MF.r mf18440 (k := 33) (by decide) (by decide)).symm
        have m18473 := (m18429).trans (MF.i mf18440 (k := 71) (by decide) (by decide)).symm
        have mf18474 : MF K s.heap H18435 a0 [72] := MF.trans mf18388 mf18440 (by decide)
        have bx18437 := ty_fi (x := x18437) (k := 72) ex18437 hTH18435 ga0 rg_112 rfl
        have ce_x18338 := i_cl (x := x18338) bx18338.1
        have e_ : x18338.toNatClampNeg = 8920 + 7 * x17861.toNatClampNeg := by omega
        have k3e_ := m18443
        rw [e_] at k3e_
        have b18475 : UN (tk.toInt = 0) (fun k => fI H18435 iq k) (fun k => fI s.heap iq k) := UN.tr m18444 b18400
        have b18476 : FB (fun k => fI H18435 iq k) (fun k => fI s.heap iq k) (8908) := FB.wr b18401 k3e_ (fun j hj => Nat.ne_of_lt (Nat.lt_of_lt_of_le hj (Nat.le_trans (by decide : 8908 ≤ 8920) (Nat.le_add_right _ _))))
        have b18477 : EQ (fun k => fI H18435 q24 k) (fun k => fI H18435 iq k) (8908) (1) (6) := EQ.wr (EQ.congr (w1 := fun k => fI H18387 iq k) (fun j => fI_kept (x_lt hTH18387 kH18435 gq24 (by decide))) (fun _ => rfl) b18402) k3e_ (fun j hj => nE_8908_1_6_8920_7 hj)
        have b18478 : EQ (fun k => fI H18435 q25 k) (fun k => fI H18435 iq k) (8914) (7) (x17861.toNatClampNeg + 1) := EQ.wr (EQ.congr (w1 := fun k => fI H18387 iq k) (fun j => fI_kept (x_lt hTH18387 kH18435 gq25 (by decide))) (fun _ => rfl) b18403) k3e_ (fun j hj => nE_8914_7_i1_8920_7 hj)
        have b18479 : EQ (fun k => fI H18435 q26 k) (fun k => fI H18435 iq k) (8915) (7) (x17861.toNatClampNeg + 1) := EQ.wr (EQ.congr (w1 := fun k => fI H18387 iq k) (fun j => fI_kept (x_lt hTH18387 kH18435 gq26 (by decide))) (fun _ => rfl) b18404) k3e_ (fun j hj => nE_8915_7_i1_8920_7 hj)
        have b18480 : EQ (fun k => fI H18435 q27 k) (fun k => fI H18435 iq k) (8916) (7) (x17861.toNatClampNeg + 1) := EQ.wr (EQ.congr (w1 := fun k => fI H18387 iq k) (fun j => fI_kept (x_lt hTH18387 kH18435 gq27 (by decide))) (fun _ => rfl) b18405) k3e_ (fun j hj => nE_8916_7_i1_8920_7 hj)
        have b18481 : EQ (fun k => fI H18435 q28 k) (fun k => fI H18435 iq k) (8917) (7) (x17861.toNatClampNeg + 1) := EQ.wr (EQ.congr (w1 := fun k => fI H18387 iq k) (fun j => fI_kept (x_lt hTH18387 kH18435 gq28 (by decide))) (fun _ => rfl) b18406) k3e_ (fun j hj => nE_8917_7_i1_8920_7 hj)
        have b18482 : EQ (fun k => fI H18435 q29 k) (fun k => fI H18435 iq k) (8918) (7) (x17861.toNatClampNeg + 1) := EQ.wr (EQ.congr (w1 := fun k => fI H18387 iq k) (fun j => fI_kept (x_lt hTH18387 kH18435 gq29 (by decide))) (fun _ => rfl) b18407) k3e_ (fun j hj => nE_8918_7_i1_8920_7 hj)
        have b18483 : EQ (fun k => fI H18435 q30 k) (fun k => fI H18435 iq k) (8919) (7) (x17861.toNatClampNeg + 1) := EQ.wr (EQ.congr (w1 := fun k => fI H18387 iq k) (fun j => fI_kept (x_lt hTH18387 kH18435 gq30 (by decide))) (fun _ => rfl) b18408) k3e_ (fun j hj => nE_8919_7_i1_8920_7 hj)
        have b18484 : EQ (fun k => fI H18435 q31 k) (fun k => fI H18435 iq k) (8920) (7) (x17861.toNatClampNeg) := EQ.wr (EQ.congr (w1 := fun k => fI H18387 iq k) (fun j => fI_kept (x_lt hTH18387 kH18435 gq31 (by decide))) (fun _ => rfl) b18409) k3e_ (fun j hj => nE_8920_7_i_8920_7 hj)
        have b18485 : EQ (fun k => fI H18435 q32 k) (fun k => fI H18435 iq k) (9586) (2) (0) := EQ.wr (EQ.congr (w1 := fun k => fI H18387 iq k) (fun j => fI_kept (x_lt hTH18387 kH18435 gq32 (by decide))) (fun _ => rfl) b18410) k3e_ (fun j hj => nE_9586_2_0_8920_7 hj)
        have b18486 : EQ (fun k => fI H18435 q33 k) (fun k => fI H18435 iq k) (9587) (2) (0) := EQ.wr (EQ.congr (w1 := fun k => fI H18387 iq k) (fun j => fI_kept (x_lt hTH18387 kH18435 gq33 (by decide))) (fun _ => rfl) b18411) k3e_ (fun j hj => nE_9587_2_0_8920_7 hj)
        clear b18390 b18391 b18392 b18393 b18394 b18395 b18396 b18397 b18398 b18399 b18400 b18401 b18402 b18403 b18404 b18405 b18406 b18407 b18408 b18409 b18410 b18411 ex18434 m18412 m18413 m18414 m18415 m18416 m18418 m18419 m18420 m18421 m18422 m18423 m18424 m18425 m18426 m18427 m18428 m18429 m18430 m18431
        clear m18443 m18444 k3e_ e_
        have bx18436 : 0 ≤ x18436.toInt ∧ x18436.toInt ≤ 500 := kr (fun h0 => by have hiw := (hy0 h0); exact kr0 (w := fun k => fI H18435 iq k) m18441 (p := 8920 + 7 * x17861.toNatClampNeg) (by omega) (b18475 h0) ((hiw.2.2.2.2.1 x17861.toNatClampNeg (by omega)).2.2.2)) m18442 (by omega)
        refine W.eq (g2 := F0 m 149 ls17859 [.int x18436, .int x17861, .ref q31]) rfl ?_
        refine x_iast C hTH18435 hSH18435 gq31 rg_135 bx17861.1 (Int.lt_of_le_of_lt bx17861.2 (by decide)) ⟨by have := i_rng x18436; omega, by have := i_rng x18436; omega⟩ (AE_in gq31 (by decide)) dX10_keepsTexts_149 (fun H18487 locsH18487 hTH18487 hSH18487 wH18487 => ?_)
        have mf18488 : MF K s.heap H18487 a0 [72] := MF.arr wH18487 (G_ne ga0 gq31 (by decide)) mf18474
        have g18489 : WD (avw K H18487 a0) := WD.congr (fun k hk j => av_arr hTH18435 ga0 wH18487 gq31 (by decide) (WD_ok 135 (by decide) k hk)) g18439
        have b18490 : UN (tk.toInt ≠ 0) (fun k => fI H18487 q24 k) (fun k => fI s.heap q24 k) := UN.congr (fun j => Wr.neI wH18487 (Or.inl (G_ne gq24 gq31 (by decide)))) b18445
        have b18491 : UN (tk.toInt ≠ 0) (fun k => fI H18487 q25 k) (fun k => fI s.heap q25 k) := UN.congr (fun j => Wr.neI wH18487 (Or.inl (G_ne gq25 gq31 (by decide)))) b18446
        have b18492 : UN (tk.toInt ≠ 0) (fun k => fI H18487 q26 k) (fun k => fI s.heap q26 k) := UN.congr (fun j => Wr.neI wH18487 (Or.inl (G_ne gq26 gq31 (by decide)))) b18447
        have b18493 : UN (tk.toInt ≠ 0) (fun k => fI H18487 q27 k) (fun k => fI s.heap q27 k) := UN.congr (fun j => Wr.neI wH18487 (Or.inl (G_ne gq27 gq31 (by decide)))) b18448
        have b18494 : UN (tk.toInt ≠ 0) (fun k => fI H18487 q28 k) (fun k => fI s.heap q28 k) := UN.congr (fun j => Wr.neI wH18487 (Or.inl (G_ne gq28 gq31 (by decide)))) b18449
        have b18495 : UN (tk.toInt ≠ 0) (fun k => fI H18487 q29 k) (fun k => fI s.heap q29 k) := UN.congr (fun j => Wr.neI wH18487 (Or.inl (G_ne gq29 gq31 (by decide)))) b18450
        have b18496 : UN (tk.toInt ≠ 0) (fun k => fI H18487 q30 k) (fun k => fI s.heap q30 k) := UN.congr (fun j => Wr.neI wH18487 (Or.inl (G_ne gq30 gq31 (by decide)))) b18451
        have b18497 : UN (tk.toInt ≠ 0) (fun k => fI H18487 q31 k) (fun k => fI s.heap q31 k) := UN.st b18452 (i := x17861.toNatClampNeg) (fun hc => (m18442 hc).trans m18461) (Wr.I wH18487) (fun j hj => Wr.neI wH18487 (Or.inr hj))
        have b18498 : UN (tk.toInt ≠ 0) (fun k => fI H18487 q32 k) (fun k => fI s.heap q32 k) := UN.congr (fun j => Wr.neI wH18487 (Or.inl (G_ne gq32 gq31 (by decide)))) b18453
        have b18499 : UN (tk.toInt ≠ 0) (fun k => fI H18487 q33 k) (fun k => fI s.heap q33 k) := UN.congr (fun j => Wr.neI wH18487 (Or.inl (G_ne gq33 gq31 (by decide)))) b18454
        have b18500 : UN (tk.toInt = 0) (fun k => fI H18487 iq k) (fun k => fI s.heap iq k) := UN.congr (fun j => Wr.neI wH18487 (Or.inl (G_ne giq gq31 (by decide)))) b18475
        have b18501 : FB (fun k => fI H18487 iq k) (fun k => fI s.heap iq k) (8908) := FB.congr (fun j => Wr.neI wH18487 (Or.inl (G_ne giq gq31 (by decide)))) b18476
        have b18502 : EQ (fun k => fI H18487 q24 k) (fun k => fI H18487 iq k) (8908) (1) (6) := EQ.congr (fun j => Wr.neI wH18487 (Or.inl (G_ne gq24 gq31 (by decide)))) (fun j => Wr.neI wH18487 (Or.inl (G_ne giq gq31 (by decide)))) b18477
        have b18503 : EQ (fun k => fI H18487 q25 k) (fun k => fI H18487 iq k) (8914) (7) (x17861.toNatClampNeg + 1) := EQ.congr (fun j => Wr.neI wH18487 (Or.inl (G_ne gq25 gq31 (by decide)))) (fun j => Wr.neI wH18487 (Or.inl (G_ne giq gq31 (by decide)))) b18478
        have b18504 : EQ (fun k => fI H18487 q26 k) (fun k => fI H18487 iq k) (8915) (7) (x17861.toNatClampNeg + 1) := EQ.congr (fun j => Wr.neI wH18487 (Or.inl (G_ne gq26 gq31 (by decide)))) (fun j => Wr.neI wH18487 (Or.inl (G_ne giq gq31 (by decide)))) b18479
        have b18505 : EQ (fun k => fI H18487 q27 k) (fun k => fI H18487 iq k) (8916) (7) (x17861.toNatClampNeg + 1) := EQ.congr (fun j => Wr.neI wH18487 (Or.inl (G_ne gq27 gq31 (by decide)))) (fun j => Wr.neI wH18487 (Or.inl (G_ne giq gq31 (by decide)))) b18480
        have b18506 : EQ (fun k => fI H18487 q28 k) (fun k => fI H18487 iq k) (8917) (7) (x17861.toNatClampNeg + 1) := EQ.congr (fun j => Wr.neI wH18487 (Or.inl (G_ne gq28 gq31 (by decide)))) (fun j => Wr.neI wH18487 (Or.inl (G_ne giq gq31 (by decide)))) b18481
        have b18507 : EQ (fun k => fI H18487 q29 k) (fun k => fI H18487 iq k) (8918) (7) (x17861.toNatClampNeg + 1) := EQ.congr (fun j => Wr.neI wH18487 (Or.inl (G_ne gq29 gq31 (by decide)))) (fun j => Wr.neI wH18487 (Or.inl (G_ne giq gq31 (by decide)))) b18482
        have b18508 : EQ (fun k => fI H18487 q30 k) (fun k => fI H18487 iq k) (8919) (7) (x17861.toNatClampNeg + 1) := EQ.congr (fun j => Wr.neI wH18487 (Or.inl (G_ne gq30 gq31 (by decide)))) (fun j => Wr.neI wH18487 (Or.inl (G_ne giq gq31 (by decide)))) b18483
        have b18509 : EQ (fun k => fI H18487 q31 k) (fun k => fI H18487 iq k) (8920) (7) (x17861.toNatClampNeg + 1) := EQ.st b18484 (i := x17861.toNatClampNeg) (t := x18338.toNatClampNeg) (by omega) m18441 (by omega) (Wr.I wH18487) (fun j hj => Wr.neI wH18487 (Or.inr hj)) (fun j => Wr.neI wH18487 (Or.inl (G_ne giq gq31 (by decide))))
        have b18510 : EQ (fun k => fI H18487 q32 k) (fun k => fI H18487 iq k) (9586) (2) (0) := EQ.congr (fun j => Wr.neI wH18487 (Or.inl (G_ne gq32 gq31 (by decide)))) (fun j => Wr.neI wH18487 (Or.inl (G_ne giq gq31 (by decide)))) b18485
        have b18511 : EQ (fun k => fI H18487 q33 k) (fun k => fI H18487 iq k) (9587) (2) (0) := EQ.congr (fun j => Wr.neI wH18487 (Or.inl (G_ne gq33 gq31 (by decide)))) (fun j => Wr.neI wH18487 (Or.inl (G_ne giq gq31 (by decide)))) b18486
        have m18512 := m18455.trans (Wr.neI wH18487 (Or.inl (G_ne gq25 gq31 (by decide)))).symm
        have m18513 := m18456.trans (Wr.neI wH18487 (Or.inl (G_ne gq26 gq31 (by decide)))).symm
        have m18514 := m18457.trans (Wr.neI wH18487 (Or.inl (G_ne gq27 gq31 (by decide)))).symm
        have m18515 := m18458.trans (Wr.neI wH18487 (Or.inl (G_ne gq28 gq31 (by decide)))).symm
        have m18516 := m18459.trans (Wr.neI wH18487 (Or.inl (G_ne gq29 gq31 (by decide)))).symm
        have m18517 := m18460.trans (Wr.neI wH18487 (Or.inl (G_ne gq30 gq31 (by decide)))).symm
        have m18519 := m18438.trans (Wr.neR wH18487 (Or.inl (G_ne ga0 gq31 (by decide)))).symm
        have m18520 := m18463.trans (Wr.neR wH18487 (Or.inl (G_ne ga0 gq31 (by decide)))).symm
        have m18521 := m18464.trans (Wr.neR wH18487 (Or.inl (G_ne ga0 gq31 (by decide)))).symm
        have m18522 := m18465.trans (Wr.neR wH18487 (Or.inl (G_ne ga0 gq31 (by decide)))).symm
        have m18523 := m18466.trans (Wr.neR wH18487 (Or.inl (G_ne ga0 gq31 (by decide)))).symm
        have m18524 := m18467.trans (Wr.neR wH18487 (Or.inl (G_ne ga0 gq31 (by decide)))).symm
        have m18525 := m18468.trans (Wr.neR wH18487 (Or.inl (G_ne ga0 gq31 (by decide)))).symm
        have m18526 := m18469.trans (Wr.neR wH18487 (Or.inl (G_ne ga0 gq31 (by decide)))).symm
        have m18527 := m18470.trans (Wr.neR wH18487 (Or.inl (G_ne ga0 gq31 (by decide)))).symm
        have m18528 := m18471.trans (Wr.neR wH18487 (Or.inl (G_ne ga0 gq31 (by decide)))).symm
        have m18529 := m18472.trans (Wr.neR wH18487 (Or.inl (G_ne ga0 gq31 (by decide)))).symm
        have m18530 := m18473.trans (Wr.neI wH18487 (Or.inl (G_ne ga0 gq31 (by decide)))).symm
        have m18531 := ex18437.trans (Wr.neI wH18487 (Or.inl (G_ne ga0 gq31 (by decide)))).symm
        have m18532 := Wr.I wH18487
        have m18532 := m18532.symm
        clear b18445 b18446 b18447 b18448 b18449 b18450 b18451 b18452 b18453 b18454 b18475 b18476 b18477 b18478 b18479 b18480 b18481 b18482 b18483 b18484 b18485 b18486 ex18437 g18439 hTH18435 m18438 m18455 m18456 m18457 m18458 m18459 m18460 m18461 m18463 m18464 m18465 m18466 m18467 m18468 m18469 m18470 m18471 m18472 m18473 mf18474
        obtain ⟨x18533, ex18533⟩ : ∃ y : Int32, y = x17861 + 1 := ⟨_, rfl⟩
        have tx18533 := i_add ex18533 (by omega)
        refine lv_iinc (v := x18533) (lv' := [(1, .int x18533), (0, .ref a0)]) hx hb dX10_keepsTexts_150 hl17860 (k := 1) rfl (by rw [ex18533]; rfl) (by decide) rfl (fun ls18534 hl18535 => ?_)
        refine lv_goto (tgt := 32) hx hb dX10_keepsTexts_153 (by decide) ?_
        have cl_x18533 := i_cl (x := x18533) (by omega)
        exact ih32 ls18534 H18487 locsH18487 (x18533) (x18437) (lv_sub hl18535 [1, 0] rfl) hTH18487 hSH18487 ⟨by have := i_rng x18533; omega, by have := i_rng x18533; omega⟩ bx18437 m18531 m18519 m18520 m18521 m18522 m18523 m18524 m18525 m18526 m18527 m18528 m18529 m18530 b18500 b18501 (EQ.cast b18502 (by omega)) (EQ.cast b18503 (by omega)) (EQ.cast b18504 (by omega)) (EQ.cast b18505 (by omega)) (EQ.cast b18506 (by omega)) (EQ.cast b18507 (by omega)) (EQ.cast b18508 (by omega)) (EQ.cast b18509 (by omega)) (EQ.cast b18510 (by omega)) (EQ.cast b18511 (by omega)) b18490 b18491 b18492 b18493 b18494 b18495 b18496 b18497 b18498 b18499 mf18488 g18489 (by omega) (by and_intros <;> first | assumption | omega)
  have J2 : ∀ (nf : Nat) (ls18537 : Array Slot) (H18536 : Heap) (locsH18536 : List Loc) (x18539 : Int32) (x18540 : Int32), lv_has ls18537 2 [(0, .ref a0), (1, .int x18539)] → TY K G H18536 → va_S (AE G [112, 162, 128, 129, 130, 131, 132, 133, 134, 135, 136, 137] s.heap.size) s.heap H18536 locsH18536 → (0 ≤ x18539.toInt ∧ x18539.toInt ≤ 6) → (0 ≤ x18540.toInt ∧ x18540.toInt ≤ 16400) → (x18540 = fI H18536 a0 (K.1.2 10 72)) → (EQN iq (fR H18536 a0 (K.1.2 10 73))) → (EQN q24 (fR H18536 a0 (K.1.2 10 24))) → (EQN q25 (fR H18536 a0 (K.1.2 10 25))) → (EQN q26 (fR H18536 a0 (K.1.2 10 26))) → (EQN q27 (fR H18536 a0 (K.1.2 10 27))) → (EQN q28 (fR H18536 a0 (K.1.2 10 28))) → (EQN q29 (fR H18536 a0 (K.1.2 10 29))) → (EQN q30 (fR H18536 a0 (K.1.2 10 30))) → (EQN q31 (fR H18536 a0 (K.1.2 10 31))) → (EQN q32 (fR H18536 a0 (K.1.2 10 32))) → (EQN q33 (fR H18536 a0 (K.1.2 10 33))) → (tk = fI H18536 a0 (K.1.2 10 71)) → (UN (tk.toInt = 0) (fun k => fI H18536 iq k) (fun k => fI s.heap iq k)) → (FB (fun k => fI H18536 iq k) (fun k => fI s.heap iq k) (8908)) → (EQ (fun k => fI H18536 q24 k) (fun k => fI H18536 iq k) (8908) (1) (x18539.toNatClampNeg)) → (EQ (fun k => fI H18536 q25 k) (fun k => fI H18536 iq k) (8914) (7) (0)) → (EQ (fun k => fI H18536 q26 k) (fun k => fI H18536 iq k) (8915) (7) (0)) → (EQ (fun k => fI H18536 q27 k) (fun k => fI H18536 iq k) (8916) (7) (0)) → (EQ (fun k => fI H18536 q28 k) (fun k => fI H18536 iq k) (8917) (7) (0)) → (EQ (fun k => fI H18536 q29 k) (fun k => fI H18536 iq k) (8918) (7) (0)) → (EQ (fun k => fI H18536 q30 k) (fun k => fI H18536 iq k) (8919) (7) (0)) → (EQ (fun k => fI H18536 q31 k) (fun k => fI H18536 iq k) (8920) (7) (0)) → (EQ (fun k => fI H18536 q32 k) (fun k => fI H18536 iq k) (9586) (2) (0)) → (EQ (fun k => fI H18536 q33 k) (fun k => fI H18536 iq k) (9587) (2) (0)) → (UN (tk.toInt ≠ 0) (fun k => fI H18536 q24 k) (fun k => fI s.heap q24 k)) → (UN (tk.toInt ≠ 0) (fun k => fI H18536 q25 k) (fun k => fI s.heap q25 k)) → (UN (tk.toInt ≠ 0) (fun k => fI H18536 q26 k) (fun k => fI s.heap q26 k)) → (UN (tk.toInt ≠ 0) (fun k => fI H18536 q27 k) (fun k => fI s.heap q27 k)) → (UN (tk.toInt ≠ 0) (fun k => fI H18536 q28 k) (fun k => fI s.heap q28 k)) → (UN (tk.toInt ≠ 0) (fun k => fI H18536 q29 k) (fun k => fI s.heap q29 k)) → (UN (tk.toInt ≠ 0) (fun k => fI H18536 q30 k) (fun k => fI s.heap q30 k)) → (UN (tk.toInt ≠ 0) (fun k => fI H18536 q31 k) (fun k => fI s.heap q31 k)) → (UN (tk.toInt ≠ 0) (fun k => fI H18536 q32 k) (fun k => fI s.heap q32 k)) → (UN (tk.toInt ≠ 0) (fun k => fI H18536 q33 k) (fun k => fI s.heap q33 k)) → (MF K s.heap H18536 a0 [72]) → (WD (avw K H18536 a0)) → (6 - x18539.toInt < (nf : Int)) → (x18540.toInt = 8908 + 1 * x18539.toInt) → W p l e ({ frames := 1, cells := 0, slots := 0, locals := 21 } : Room) s m (([.ref a0] : List Value).toArray) below meth c H18536 locsH18536 0 0 Q (F0 m 2 ls18537 []) := by
    intro nf
    induction nf with
    | zero =>
      intro ls18537 H18536 locsH18536 x18539 x18540 hl18538 hTH18536 hSH18536 bx18539 bx18540 ex18540 cy18541_0 cy18541_1 cy18541_2 cy18541_3 cy18541_4 cy18541_5 cy18541_6 cy18541_7 cy18541_8 cy18541_9 cy18541_10 cy18541_11 by18541_ui by18541_fb by18541_e24 by18541_e25 by18541_e26 by18541_e27 by18541_e28 by18541_e29 by18541_e30 by18541_e31 by18541_e32 by18541_e33 by18541_u24 by18541_u25 by18541_u26 by18541_u27 by18541_u28 by18541_u29 by18541_u30 by18541_u31 by18541_u32 by18541_u33 mfy18541 gy18541_WD hm2 iv2
      exfalso
      omega
    | succ nf ih2 =>
      intro ls18537 H18536 locsH18536 x18539 x18540 hl18538 hTH18536 hSH18536 bx18539 bx18540 ex18540 cy18541_0 cy18541_1 cy18541_2 cy18541_3 cy18541_4 cy18541_5 cy18541_6 cy18541_7 cy18541_8 cy18541_9 cy18541_10 cy18541_11 by18541_ui by18541_fb by18541_e24 by18541_e25 by18541_e26 by18541_e27 by18541_e28 by18541_e29 by18541_e30 by18541_e31 by18541_e32 by18541_e33 by18541_u24 by18541_u25 by18541_u26 by18541_u27 by18541_u28 by18541_u29 by18541_u30 by18541_u31 by18541_u32 by18541_u33 mfy18541 gy18541_WD hm2 iv2
      refine lv_iload_n hx hb dX10_keepsTexts_2 rfl (lv_at hl18538 1 rfl) ?_
      refine lv_bipush (v := 6) hx hb dX10_keepsTexts_3 (by decide) ?_
      refine lv_icmp_ge (tgt := 30) hx hb dX10_keepsTexts_5 (by decide) (fun c18542 => ?_) (fun c18542 => ?_)
      · have k18543 := i_le c18542
        refine lv_iconst (v := 0) hx hb dX10_keepsTexts_30 (by decide) ?_
        refine lv_istore_n (lv' := [(1, .int 0), (0, .ref a0)]) hx hb dX10_keepsTexts_31 rfl hl18538 (by decide) rfl (fun ls18544 hl18545 => ?_)
        have cl00 : (0 : Int32).toNatClampNeg = 0 := rfl
        have cl_x18539 := i_cl (x := x18539) bx18539.1
        exact J32 ((96 - (0 : Int32).toInt).toNat + 1) ls18544 H18536 locsH18536 (0) (x18540) (lv_sub hl18545 [1, 0] rfl) hTH18536 hSH18536 (by decide) bx18540 ex18540 cy18541_0 cy18541_1 cy18541_2 cy18541_3 cy18541_4 cy18541_5 cy18541_6 cy18541_7 cy18541_8 cy18541_9 cy18541_10 cy18541_11 by18541_ui by18541_fb (EQ.cast by18541_e24 (by omega)) (EQ.cast by18541_e25 (by omega)) (EQ.cast by18541_e26 (by omega)) (EQ.cast by18541_e27 (by omega)) (EQ.cast by18541_e28 (by omega)) (EQ.cast by18541_e29 (by omega)) (EQ.cast by18541_e30 (by omega)) (EQ.cast by18541_e31 (by omega)) (EQ.cast by18541_e32 (by omega)) (EQ.cast by18541_e33 (by omega)) by18541_u24 by18541_u25 by18541_u26 by18541_u27 by18541_u28 by18541_u29 by18541_u30 by18541_u31 by18541_u32 by18541_u33 mfy18541 gy18541_WD (by omega) (by and_intros <;> first | assumption | omega)
      · have k18543 := i_nle c18542
        refine lv_aload_n hx hb dX10_keepsTexts_8 rfl (lv_at hl18538 0 rfl) ?_
        refine x_gr C hTH18536 (ci := 10) (k := 24) rfl inX10 (by decide) wF_X10_59 ga0 rg_112 rfl dX10_keepsTexts_9 (fun q18546 eq18546 gq18546 => ?_)
        have uq18546 : q24 = q18546 := (cy18541_1).trans eq18546.symm
        subst uq18546
        clear eq18546
        refine lv_iload_n hx hb dX10_keepsTexts_12 rfl (lv_at hl18538 1 rfl) ?_
        refine lv_aload_n hx hb dX10_keepsTexts_13 rfl (lv_at hl18538 0 rfl) ?_
        refine lv_aload_n hx hb dX10_keepsTexts_14 rfl (lv_at hl18538 0 rfl) ?_
        refine x_gr C hTH18536 (ci := 10) (k := 24) rfl inX10 (by decide) wF_X10_59 ga0 rg_112 rfl dX10_keepsTexts_15 (fun q18547 eq18547 gq18547 => ?_)
        have uq18547 : q24 = q18547 := (cy18541_1).trans eq18547.symm
        subst uq18547
        clear eq18547
        refine lv_iload_n hx hb dX10_keepsTexts_18 rfl (lv_at hl18538 1 rfl) ?_
        refine x_ai C hTH18536 gq24 rg_128 ⟨bx18539.1, Int.lt_of_le_of_lt bx18539.2 (by decide)⟩ dX10_keepsTexts_19 (fun x18548 ex18548 bx18548 => ?_)
        refine x_V (As := [.int x18548]) (rest := [.int x18539, .ref q24]) C (a_X10_kept l K G H18536 (x18548) (x18540) (tk) hTH18536 ga0 giq cy18541_0 ex18540 cy18541_11 gy18541_WD (by and_intros <;> first | assumption | omega)) yo_X10_kept wM_X10_473 ⟨⟨by decide, by decide⟩, by decide, by decide⟩ (x_rv C hTH18536 (ci := 10) rfl ga0 rg_112) rfl hl18538.1 rfl (Nat.le_of_ble_eq_true rfl) dX10_keepsTexts_20 hSH18536 (AE_sub (fun _ _ => rfl) (by decide) hSH18536.1) (fun vH18549 H18549 locsH18549 pH18549 zH18549 kH18549 hSH18549 => ?_)
        obtain ⟨x18550, x18551, hvH18549, ex18551, hrH18549, m18552, g18553, mf18554, m18555, m18556, m18557, m18558, hTH18549⟩ := pH18549
        subst hvH18549
        clear zH18549
        replace m18552 := EQN.mk m18552
        have b18559 : UN (tk.toInt ≠ 0) (fun k => fI H18549 q24 k) (fun k => fI s.heap q24 k) := UN.congr (fun j => fI_kept (x_lt hTH18536 kH18549 gq24 (by decide))) by18541_u24
        have b18560 : UN (tk.toInt ≠ 0) (fun k => fI H18549 q25 k) (fun k => fI s.heap q25 k) := UN.congr (fun j => fI_kept (x_lt hTH18536 kH18549 gq25 (by decide))) by18541_u25
        have b18561 : UN (tk.toInt ≠ 0) (fun k => fI H18549 q26 k) (fun k => fI s.heap q26 k) := UN.congr (fun j => fI_kept (x_lt hTH18536 kH18549 gq26 (by decide))) by18541_u26
        have b18562 : UN (tk.toInt ≠ 0) (fun k => fI H18549 q27 k) (fun k => fI s.heap q27 k) := UN.congr (fun j => fI_kept (x_lt hTH18536 kH18549 gq27 (by decide))) by18541_u27
        have b18563 : UN (tk.toInt ≠ 0) (fun k => fI H18549 q28 k) (fun k => fI s.heap q28 k) := UN.congr (fun j => fI_kept (x_lt hTH18536 kH18549 gq28 (by decide))) by18541_u28
        have b18564 : UN (tk.toInt ≠ 0) (fun k => fI H18549 q29 k) (fun k => fI s.heap q29 k) := UN.congr (fun j => fI_kept (x_lt hTH18536 kH18549 gq29 (by decide))) by18541_u29
        have b18565 : UN (tk.toInt ≠ 0) (fun k => fI H18549 q30 k) (fun k => fI s.heap q30 k) := UN.congr (fun j => fI_kept (x_lt hTH18536 kH18549 gq30 (by decide))) by18541_u30
        have b18566 : UN (tk.toInt ≠ 0) (fun k => fI H18549 q31 k) (fun k => fI s.heap q31 k) := UN.congr (fun j => fI_kept (x_lt hTH18536 kH18549 gq31 (by decide))) by18541_u31
        have b18567 : UN (tk.toInt ≠ 0) (fun k => fI H18549 q32 k) (fun k => fI s.heap q32 k) := UN.congr (fun j => fI_kept (x_lt hTH18536 kH18549 gq32 (by decide))) by18541_u32
        have b18568 : UN (tk.toInt ≠ 0) (fun k => fI H18549 q33 k) (fun k => fI s.heap q33 k) := UN.congr (fun j => fI_kept (x_lt hTH18536 kH18549 gq33 (by decide))) by18541_u33
        have m18569 := (ex18548).trans (fI_kept (x_lt hTH18536 kH18549 gq24 (by decide))).symm
        have m18570 := (cy18541_0).trans (MF.r mf18554 (k := 73) (by decide) (by decide)).symm
        have m18571 := (cy18541_1).trans (MF.r mf18554 (k := 24) (by decide) (by decide)).symm
        have m18572 := (cy18541_2).trans (MF.r mf18554 (k := 25) (by decide) (by decide)).symm
        have m18573 := (cy18541_3).trans (MF.r mf18554 (k := 26) (by decide) (by decide)).symm
        have m18574 := (cy18541_4).trans (MF.r mf18554 (k := 27) (by decide) (by decide)).symm
        have m18575 := (cy18541_5).trans (MF.r mf18554 (k := 28) (by decide) (by decide)).symm
        have m18576 := (cy18541_6).trans (MF.r mf18554 (k := 29) (by decide) (by decide)).symm
        have m18577 := (cy18541_7).trans (MF.r mf18554 (k := 30) (by decide) (by decide)).symm
        have m18578 := (cy18541_8).trans (MF.r mf18554 (k := 31) (by decide) (by decide)).symm
        have m18579 := (cy18541_9).trans (MF.r mf18554 (k := 32) (by decide) (by decide)).symm
        have m18580 := (cy18541_10).trans (MF.r mf18554 (k := 33) (by decide) (by decide)).symm
        have m18581 := (cy18541_11).trans (MF.i mf18554 (k := 71) (by decide) (by decide)).symm
        have mf18582 : MF K s.heap H18549 a0 [72] := MF.trans mfy18541 mf18554 (by decide)
        have bx18551 := ty_fi (x := x18551) (k := 72) ex18551 hTH18549 ga0 rg_112 rfl
        have ce_x18539 := i_cl (x := x18539) bx18539.1
        have ce_x18540 := i_cl (x := x18540) bx18540.1
        have e_ : x18540.toNatClampNeg = 8908 + 1 * x18539.toNatClampNeg := by omega
        have k3e_ := m18557
        rw [e_] at k3e_
        have b18583 : UN (tk.toInt = 0) (fun k => fI H18549 iq k) (fun k => fI s.heap iq k) := UN.tr m18558 by18541_ui
        have b18584 : FB (fun k => fI H18549 iq k) (fun k => fI s.heap iq k) (8908) := FB.wr by18541_fb k3e_ (fun j hj => Nat.ne_of_lt (Nat.lt_of_lt_of_le hj (Nat.le_trans (by decide : 8908 ≤ 8908) (Nat.le_add_right _ _))))
        have b18585 : EQ (fun k => fI H18549 q24 k) (fun k => fI H18549 iq k) (8908) (1) (x18539.toNatClampNeg) := EQ.wr (EQ.congr (w1 := fun k => fI H18536 iq k) (fun j => fI_kept (x_lt hTH18536 kH18549 gq24 (by decide))) (fun _ => rfl) by18541_e24) k3e_ (fun j hj => nE_8908_1_i_8908_1 hj)
        have b18586 : EQ (fun k => fI H18549 q25 k) (fun k => fI H18549 iq k) (8914) (7) (0) := EQ.wr (EQ.congr (w1 := fun k => fI H18536 iq k) (fun j => fI_kept (x_lt hTH18536 kH18549 gq25 (by decide))) (fun _ => rfl) by18541_e25) k3e_ (fun j hj => nE_8914_7_0_8908_1 hj)
        have b18587 : EQ (fun k => fI H18549 q26 k) (fun k => fI H18549 iq k) (8915) (7) (0) := EQ.wr (EQ.congr (w1 := fun k => fI H18536 iq k) (fun j => fI_kept (x_lt hTH18536 kH18549 gq26 (by decide))) (fun _ => rfl) by18541_e26) k3e_ (fun j hj => nE_8915_7_0_8908_1 hj)
        have b18588 : EQ (fun k => fI H18549 q27 k) (fun k => fI H18549 iq k) (8916) (7) (0) := EQ.wr (EQ.congr (w1 := fun k => fI H18536 iq k) (fun j => fI_kept (x_lt hTH18536 kH18549 gq27 (by decide))) (fun _ => rfl) by18541_e27) k3e_ (fun j hj => nE_8916_7_0_8908_1 hj)
        have b18589 : EQ (fun k => fI H18549 q28 k) (fun k => fI H18549 iq k) (8917) (7) (0) := EQ.wr (EQ.congr (w1 := fun k => fI H18536 iq k) (fun j => fI_kept (x_lt hTH18536 kH18549 gq28 (by decide))) (fun _ => rfl) by18541_e28) k3e_ (fun j hj => nE_8917_7_0_8908_1 hj)
        have b18590 : EQ (fun k => fI H18549 q29 k) (fun k => fI H18549 iq k) (8918) (7) (0) := EQ.wr (EQ.congr (w1 := fun k => fI H18536 iq k) (fun j => fI_kept (x_lt hTH18536 kH18549 gq29 (by decide))) (fun _ => rfl) by18541_e29) k3e_ (fun j hj => nE_8918_7_0_8908_1 hj)
        have b18591 : EQ (fun k => fI H18549 q30 k) (fun k => fI H18549 iq k) (8919) (7) (0) := EQ.wr (EQ.congr (w1 := fun k => fI H18536 iq k) (fun j => fI_kept (x_lt hTH18536 kH18549 gq30 (by decide))) (fun _ => rfl) by18541_e30) k3e_ (fun j hj => nE_8919_7_0_8908_1 hj)
        have b18592 : EQ (fun k => fI H18549 q31 k) (fun k => fI H18549 iq k) (8920) (7) (0) := EQ.wr (EQ.congr (w1 := fun k => fI H18536 iq k) (fun j => fI_kept (x_lt hTH18536 kH18549 gq31 (by decide))) (fun _ => rfl) by18541_e31) k3e_ (fun j hj => nE_8920_7_0_8908_1 hj)
        have b18593 : EQ (fun k => fI H18549 q32 k) (fun k => fI H18549 iq k) (9586) (2) (0) := EQ.wr (EQ.congr (w1 := fun k => fI H18536 iq k) (fun j => fI_kept (x_lt hTH18536 kH18549 gq32 (by decide))) (fun _ => rfl) by18541_e32) k3e_ (fun j hj => nE_9586_2_0_8908_1 hj)
        have b18594 : EQ (fun k => fI H18549 q33 k) (fun k => fI H18549 iq k) (9587) (2) (0) := EQ.wr (EQ.congr (w1 := fun k => fI H18536 iq k) (fun j => fI_kept (x_lt hTH18536 kH18549 gq33 (by decide))) (fun _ => rfl) by18541_e33) k3e_ (fun j hj => nE_9587_2_0_8908_1 hj)
        clear by18541_e24 by18541_e25 by18541_e26 by18541_e27 by18541_e28 by18541_e29 by18541_e30 by18541_e31 by18541_e32 by18541_e33 by18541_fb by18541_u24 by18541_u25 by18541_u26 by18541_u27 by18541_u28 by18541_u29 by18541_u30 by18541_u31 by18541_u32 by18541_u33 by18541_ui cy18541_0 cy18541_1 cy18541_10 cy18541_11 cy18541_2 cy18541_3 cy18541_4 cy18541_5 cy18541_6 cy18541_7 cy18541_8 cy18541_9 ex18540 ex18548
        clear m18557 m18558 k3e_ e_
        have bx18550 : 0 ≤ x18550.toInt ∧ x18550.toInt ≤ 16 := kr (fun h0 => by have hiw := (hy0 h0); exact kr0 (w := fun k => fI H18549 iq k) m18555 (p := 8908 + x18539.toNatClampNeg) (by omega) (b18583 h0) (hiw.2.2.2.1 x18539.toNatClampNeg (by omega))) m18556 (by omega)
        refine W.eq (g2 := F0 m 23 ls18537 [.int x18550, .int x18539, .ref q24]) rfl ?_
        refine x_iast C hTH18549 hSH18549 gq24 rg_128 bx18539.1 (Int.lt_of_le_of_lt bx18539.2 (by decide)) ⟨by have := i_rng x18550; omega, by have := i_rng x18550; omega⟩ (AE_in gq24 (by decide)) dX10_keepsTexts_23 (fun H18595 locsH18595 hTH18595 hSH18595 wH18595 => ?_)
        have mf18596 : MF K s.heap H18595 a0 [72] := MF.arr wH18595 (G_ne ga0 gq24 (by decide)) mf18582
        have g18597 : WD (avw K H18595 a0) := WD.congr (fun k hk j => av_arr hTH18549 ga0 wH18595 gq24 (by decide) (WD_ok 128 (by decide) k hk)) g18553
        have b18598 : UN (tk.toInt ≠ 0) (fun k => fI H18595 q24 k) (fun k => fI s.heap q24 k) := UN.st b18559 (i := x18539.toNatClampNeg) (fun hc => (m18556 hc).trans m18569) (Wr.I wH18595) (fun j hj => Wr.neI wH18595 (Or.inr hj))
        have b18599 : UN (tk.toInt ≠ 0) (fun k => fI H18595 q25 k) (fun k => fI s.heap q25 k) := UN.congr (fun j => Wr.neI wH18595 (Or.inl (G_ne gq25 gq24 (by decide)))) b18560
        have b18600 : UN (tk.toInt ≠ 0) (fun k => fI H18595 q26 k) (fun k => fI s.heap q26 k) := UN.congr (fun j => Wr.neI wH18595 (Or.inl (G_ne gq26 gq24 (by decide)))) b18561
        have b18601 : UN (tk.toInt ≠ 0) (fun k => fI H18595 q27 k) (fun k => fI s.heap q27 k) := UN.congr (fun j => Wr.neI wH18595 (Or.inl (G_ne gq27 gq24 (by decide)))) b18562
        have b18602 : UN (tk.toInt ≠ 0) (fun k => fI H18595 q28 k) (fun k => fI s.heap q28 k) := UN.congr (fun j => Wr.neI wH18595 (Or.inl (G_ne gq28 gq24 (by decide)))) b18563
        have b18603 : UN (tk.toInt ≠ 0) (fun k => fI H18595 q29 k) (fun k => fI s.heap q29 k) := UN.congr (fun j => Wr.neI wH18595 (Or.inl (G_ne gq29 gq24 (by decide)))) b18564
        have b18604 : UN (tk.toInt ≠ 0) (fun k => fI H18595 q30 k) (fun k => fI s.heap q30 k) := UN.congr (fun j => Wr.neI wH18595 (Or.inl (G_ne gq30 gq24 (by decide)))) b18565
        have b18605 : UN (tk.toInt ≠ 0) (fun k => fI H18595 q31 k) (fun k => fI s.heap q31 k) := UN.congr (fun j => Wr.neI wH18595 (Or.inl (G_ne gq31 gq24 (by decide)))) b18566
        have b18606 : UN (tk.toInt ≠ 0) (fun k => fI H18595 q32 k) (fun k => fI s.heap q32 k) := UN.congr (fun j => Wr.neI wH18595 (Or.inl (G_ne gq32 gq24 (by decide)))) b18567
        have b18607 : UN (tk.toInt ≠ 0) (fun k => fI H18595 q33 k) (fun k => fI s.heap q33 k) := UN.congr (fun j => Wr.neI wH18595 (Or.inl (G_ne gq33 gq24 (by decide)))) b18568
        have b18608 : UN (tk.toInt = 0) (fun k => fI H18595 iq k) (fun k => fI s.heap iq k) := UN.congr (fun j => Wr.neI wH18595 (Or.inl (G_ne giq gq24 (by decide)))) b18583
        have b18609 : FB (fun k => fI H18595 iq k) (fun k => fI s.heap iq k) (8908) := FB.congr (fun j => Wr.neI wH18595 (Or.inl (G_ne giq gq24 (by decide)))) b18584
        have b18610 : EQ (fun k => fI H18595 q24 k) (fun k => fI H18595 iq k) (8908) (1) (x18539.toNatClampNeg + 1) := EQ.st b18585 (i := x18539.toNatClampNeg) (t := x18540.toNatClampNeg) (by omega) m18555 (by omega) (Wr.I wH18595) (fun j hj => Wr.neI wH18595 (Or.inr hj)) (fun j => Wr.neI wH18595 (Or.inl (G_ne giq gq24 (by decide))))
        have b18611 : EQ (fun k => fI H18595 q25 k) (fun k => fI H18595 iq k) (8914) (7) (0) := EQ.congr (fun j => Wr.neI wH18595 (Or.inl (G_ne gq25 gq24 (by decide)))) (fun j => Wr.neI wH18595 (Or.inl (G_ne giq gq24 (by decide)))) b18586
        have b18612 : EQ (fun k => fI H18595 q26 k) (fun k => fI H18595 iq k) (8915) (7) (0) := EQ.congr (fun j => Wr.neI wH18595 (Or.inl (G_ne gq26 gq24 (by decide)))) (fun j => Wr.neI wH18595 (Or.inl (G_ne giq gq24 (by decide)))) b18587
        have b18613 : EQ (fun k => fI H18595 q27 k) (fun k => fI H18595 iq k) (8916) (7) (0) := EQ.congr (fun j => Wr.neI wH18595 (Or.inl (G_ne gq27 gq24 (by decide)))) (fun j => Wr.neI wH18595 (Or.inl (G_ne giq gq24 (by decide)))) b18588
        have b18614 : EQ (fun k => fI H18595 q28 k) (fun k => fI H18595 iq k) (8917) (7) (0) := EQ.congr (fun j => Wr.neI wH18595 (Or.inl (G_ne gq28 gq24 (by decide)))) (fun j => Wr.neI wH18595 (Or.inl (G_ne giq gq24 (by decide)))) b18589
        have b18615 : EQ (fun k => fI H18595 q29 k) (fun k => fI H18595 iq k) (8918) (7) (0) := EQ.congr (fun j => Wr.neI wH18595 (Or.inl (G_ne gq29 gq24 (by decide)))) (fun j => Wr.neI wH18595 (Or.inl (G_ne giq gq24 (by decide)))) b18590
        have b18616 : EQ (fun k => fI H18595 q30 k) (fun k => fI H18595 iq k) (8919) (7) (0) := EQ.congr (fun j => Wr.neI wH18595 (Or.inl (G_ne gq30 gq24 (by decide)))) (fun j => Wr.neI wH18595 (Or.inl (G_ne giq gq24 (by decide)))) b18591
        have b18617 : EQ (fun k => fI H18595 q31 k) (fun k => fI H18595 iq k) (8920) (7) (0) := EQ.congr (fun j => Wr.neI wH18595 (Or.inl (G_ne gq31 gq24 (by decide)))) (fun j => Wr.neI wH18595 (Or.inl (G_ne giq gq24 (by decide)))) b18592
        have b18618 : EQ (fun k => fI H18595 q32 k) (fun k => fI H18595 iq k) (9586) (2) (0) := EQ.congr (fun j => Wr.neI wH18595 (Or.inl (G_ne gq32 gq24 (by decide)))) (fun j => Wr.neI wH18595 (Or.inl (G_ne giq gq24 (by decide)))) b18593
        have b18619 : EQ (fun k => fI H18595 q33 k) (fun k => fI H18595 iq k) (9587) (2) (0) := EQ.congr (fun j => Wr.neI wH18595 (Or.inl (G_ne gq33 gq24 (by decide)))) (fun j => Wr.neI wH18595 (Or.inl (G_ne giq gq24 (by decide)))) b18594
        have m18621 := m18552.trans (Wr.neR wH18595 (Or.inl (G_ne ga0 gq24 (by decide)))).symm
        have m18622 := m18571.trans (Wr.neR wH18595 (Or.inl (G_ne ga0 gq24 (by decide)))).symm
        have m18623 := m18572.trans (Wr.neR wH18595 (Or.inl (G_ne ga0 gq24 (by decide)))).symm
        have m18624 := m18573.trans (Wr.neR wH18595 (Or.inl (G_ne ga0 gq24 (by decide)))).symm
        have m18625 := m18574.trans (Wr.neR wH18595 (Or.inl (G_ne ga0 gq24 (by decide)))).symm
        have m18626 := m18575.trans (Wr.neR wH18595 (Or.inl (G_ne ga0 gq24 (by decide)))).symm
        have m18627 := m18576.trans (Wr.neR wH18595 (Or.inl (G_ne ga0 gq24 (by decide)))).symm
        have m18628 := m18577.trans (Wr.neR wH18595 (Or.inl (G_ne ga0 gq24 (by decide)))).symm
        have m18629 := m18578.trans (Wr.neR wH18595 (Or.inl (G_ne ga0 gq24 (by decide)))).symm
        have m18630 := m18579.trans (Wr.neR wH18595 (Or.inl (G_ne ga0 gq24 (by decide)))).symm
        have m18631 := m18580.trans (Wr.neR wH18595 (Or.inl (G_ne ga0 gq24 (by decide)))).symm
        have m18632 := m18581.trans (Wr.neI wH18595 (Or.inl (G_ne ga0 gq24 (by decide)))).symm
        have m18633 := ex18551.trans (Wr.neI wH18595 (Or.inl (G_ne ga0 gq24 (by decide)))).symm
        have m18634 := Wr.I wH18595
        have m18634 := m18634.symm
        clear b18559 b18560 b18561 b18562 b18563 b18564 b18565 b18566 b18567 b18568 b18583 b18584 b18585 b18586 b18587 b18588 b18589 b18590 b18591 b18592 b18593 b18594 ex18551 g18553 hTH18549 m18552 m18569 m18571 m18572 m18573 m18574 m18575 m18576 m18577 m18578 m18579 m18580 m18581 mf18582
        obtain ⟨x18635, ex18635⟩ : ∃ y : Int32, y = x18539 + 1 := ⟨_, rfl⟩
        have tx18635 := i_add ex18635 (by omega)
        refine lv_iinc (v := x18635) (lv' := [(1, .int x18635), (0, .ref a0)]) hx hb dX10_keepsTexts_24 hl18538 (k := 1) rfl (by rw [ex18635]; rfl) (by decide) rfl (fun ls18636 hl18637 => ?_)
        refine lv_goto (tgt := 2) hx hb dX10_keepsTexts_27 (by decide) ?_
        have cl_x18635 := i_cl (x := x18635) (by omega)
        exact ih2 ls18636 H18595 locsH18595 (x18635) (x18551) (lv_sub hl18637 [1, 0] rfl) hTH18595 hSH18595 ⟨by have := i_rng x18635; omega, by have := i_rng x18635; omega⟩ bx18551 m18633 m18621 m18622 m18623 m18624 m18625 m18626 m18627 m18628 m18629 m18630 m18631 m18632 b18608 b18609 (EQ.cast b18610 (by omega)) (EQ.cast b18611 (by omega)) (EQ.cast b18612 (by omega)) (EQ.cast b18613 (by omega)) (EQ.cast b18614 (by omega)) (EQ.cast b18615 (by omega)) (EQ.cast b18616 (by omega)) (EQ.cast b18617 (by omega)) (EQ.cast b18618 (by omega)) (EQ.cast b18619 (by omega)) b18598 b18599 b18600 b18601 b18602 b18603 b18604 b18605 b18606 b18607 mf18596 g18597 (by omega) (by and_intros <;> first | assumption | omega)
  have ui00 : UN (tk.toInt = 0) (fun k => fI s.heap iq k) (fun k => fI s.heap iq k) := UN.rf
  have fb00 : FB (fun k => fI s.heap iq k) (fun k => fI s.heap iq k) (8908) := FB.rf
  have e2400 : EQ (fun k => fI s.heap q24 k) (fun k => fI s.heap iq k) (8908) (1) (0) := EQ.nil rfl
  have e2500 : EQ (fun k => fI s.heap q25 k) (fun k => fI s.heap iq k) (8914) (7) (0) := EQ.nil rfl
  have e2600 : EQ (fun k => fI s.heap q26 k) (fun k => fI s.heap iq k) (8915) (7) (0) := EQ.nil rfl
  have e2700 : EQ (fun k => fI s.heap q27 k) (fun k => fI s.heap iq k) (8916) (7) (0) := EQ.nil rfl
  have e2800 : EQ (fun k => fI s.heap q28 k) (fun k => fI s.heap iq k) (8917) (7) (0) := EQ.nil rfl
  have e2900 : EQ (fun k => fI s.heap q29 k) (fun k => fI s.heap iq k) (8918) (7) (0) := EQ.nil rfl
  have e3000 : EQ (fun k => fI s.heap q30 k) (fun k => fI s.heap iq k) (8919) (7) (0) := EQ.nil rfl
  have e3100 : EQ (fun k => fI s.heap q31 k) (fun k => fI s.heap iq k) (8920) (7) (0) := EQ.nil rfl
  have e3200 : EQ (fun k => fI s.heap q32 k) (fun k => fI s.heap iq k) (9586) (2) (0) := EQ.nil rfl
  have e3300 : EQ (fun k => fI s.heap q33 k) (fun k => fI s.heap iq k) (9587) (2) (0) := EQ.nil rfl
  have u2400 : UN (tk.toInt ≠ 0) (fun k => fI s.heap q24 k) (fun k => fI s.heap q24 k) := UN.rf
  have u2500 : UN (tk.toInt ≠ 0) (fun k => fI s.heap q25 k) (fun k => fI s.heap q25 k) := UN.rf
  have u2600 : UN (tk.toInt ≠ 0) (fun k => fI s.heap q26 k) (fun k => fI s.heap q26 k) := UN.rf
  have u2700 : UN (tk.toInt ≠ 0) (fun k => fI s.heap q27 k) (fun k => fI s.heap q27 k) := UN.rf
  have u2800 : UN (tk.toInt ≠ 0) (fun k => fI s.heap q28 k) (fun k => fI s.heap q28 k) := UN.rf
  have u2900 : UN (tk.toInt ≠ 0) (fun k => fI s.heap q29 k) (fun k => fI s.heap q29 k) := UN.rf
  have u3000 : UN (tk.toInt ≠ 0) (fun k => fI s.heap q30 k) (fun k => fI s.heap q30 k) := UN.rf
  have u3100 : UN (tk.toInt ≠ 0) (fun k => fI s.heap q31 k) (fun k => fI s.heap q31 k) := UN.rf
  have u3200 : UN (tk.toInt ≠ 0) (fun k => fI s.heap q32 k) (fun k => fI s.heap q32 k) := UN.rf
  have u3300 : UN (tk.toInt ≠ 0) (fun k => fI s.heap q33 k) (fun k => fI s.heap q33 k) := UN.rf
  refine lv_iconst (v := 0) hx hb dX10_keepsTexts_0 (by decide) ?_
  refine lv_istore_n (lv' := [(1, .int 0), (0, .ref a0)]) hx hb dX10_keepsTexts_1 rfl hl (by decide) rfl (fun ls18638 hl18639 => ?_)
  have cl00 : (0 : Int32).toNatClampNeg = 0 := rfl
  exact J2 ((6 - (0 : Int32).toInt).toNat + 1) ls18638 s.heap [] (0) (ia) (lv_sub hl18639 [1, 0] rfl) hT hS (by decide) ⟨by have := i_rng ia; omega, by have := i_rng ia; omega⟩ eia eiq eq24 eq25 eq26 eq27 eq28 eq29 eq30 eq31 eq32 eq33 etk ui00 fb00 (EQ.cast e2400 (by omega)) (EQ.cast e2500 (by omega)) (EQ.cast e2600 (by omega)) (EQ.cast e2700 (by omega)) (EQ.cast e2800 (by omega)) (EQ.cast e2900 (by omega)) (EQ.cast e3000 (by omega)) (EQ.cast e3100 (by omega)) (EQ.cast e3200 (by omega)) (EQ.cast e3300 (by omega)) u2400 u2500 u2600 u2700 u2800 u2900 u3000 u3100 u3200 u3300 mf0 hg_WD (by omega) (by and_intros <;> first | assumption | omega)
