set_option maxHeartbeats 4000000 in
set_option maxRecDepth 100000 in
theorem a_X10_leastWaste_e (l : Launch) (K : KE) (G : Nat → Option Nat) (H : Heap) {a0 : Nat} (x1 : Int32) {gq : Nat} {bq : Nat} {nq : Nat} {lq : Nat} {kq : Nat} (bl : Int32) (nt : Int32) (nfn : Nat → Int) (bfn : Nat → Int) (rfn : Nat → Int) (hT : TY K G H) (ga0 : G a0 = some 112) (hx1 : 0 ≤ x1.toInt ∧ x1.toInt ≤ 99) (ggq : G gq = some 160) (egq : gq = fR H a0 (K.1.2 10 68)) (gbq : G bq = some 161) (ebq : bq = fR H a0 (K.1.2 10 69)) (gnq : G nq = some 157) (enq : nq = fR H a0 (K.1.2 10 64)) (glq : G lq = some 158) (elq : lq = fR H a0 (K.1.2 10 66)) (gkq : G kq = some 159) (ekq : kq = fR H a0 (K.1.2 10 67)) (ebl : bl = fI H a0 (K.1.2 10 65)) (ent : nt = fI H a0 (K.1.2 10 62)) (hy0 : ∀ j : Nat, j < nt.toNatClampNeg → 0 ≤ nfn j ∧ nfn j ≤ 99) (hy1 : ∀ j : Nat, j < bl.toNatClampNeg → 0 ≤ bfn j ∧ bfn j ≤ 99) (hy2 : ∀ j : Nat, j < bl.toNatClampNeg → 0 ≤ rfn j ∧ rfn j ≤ 99) (hv_nfn : ∀ j : Nat, nfn j = (fI H nq j).toInt) (hv_bfn : ∀ j : Nat, bfn j = (fI H lq j).toInt) (hv_rfn : ∀ j : Nat, rfn j = (fI H kq j).toInt) : MX l K yX10_leastWaste cX10_leastWaste 6 (some .int) 2 45 0 0 [.ref a0, .int x1] H (AE G [160, 161] H.size) (fun v H1 => ∃ (r : Int32), v = some (.int r) ∧ (HD (goB nfn bfn rfn x1.toInt bl.toNatClampNeg nt.toNatClampNeg [] (-1, []) = (r.toInt, acL r.toInt (fun j => (fI H1 bq j).toInt) nt.toNatClampNeg))) ∧ TY K G H1) := by
  refine MX.of (by decide +kernel) (Nat.le_of_ble_eq_true rfl) ?_
  intro p e s m below meth c ls Q C hH hl hQ
  subst hH
  have C : CX p K s m _ meth c RX10 cX10_leastWaste 6 (some .int) "leastWaste" := C
  obtain ⟨hx, hb, hml, hown, hts, hKT, hr, hlocks, hnm⟩ := id C
  have hl : lv_has ls 6 [(0, .ref a0), (1, .int x1)] := hl
  have hS : va_S (AE G [160, 161] s.heap.size) s.heap s.heap [] := va_S.rf
  have n_m1 : ((-1) : Int32).toInt = -1 := rfl
  have n_0 : (0 : Int32).toInt = 0 := rfl
  have n_1 : (1 : Int32).toInt = 1 := rfl
  have n_8 : (8 : Int32).toInt = 8 := rfl
  have bbl := ty_fi (x := bl) (k := 65) ebl hT ga0 rg_112 rfl
  have bnt := ty_fi (x := nt) (k := 62) ent hT ga0 rg_112 rfl
  have hap : ∀ x y, x < 74 → y < 74 → x ≠ y → K.1.2 10 x ≠ K.1.2 10 y := x_apart hKT hts inX10 tyX10 tyX10_ok nmX10 rfl
  have f0_nfn := hv_nfn
  have f0_bfn := hv_bfn
  have f0_rfn := hv_rfn
  have J7 : ∀ (nf : Nat) (ls1827 : Array Slot) (H1826 : Heap) (locsH1826 : List Loc) (x1829 : Int32) (x1830 : Int32) (x1831 : Int32), lv_has ls1827 6 [(0, .ref a0), (1, .int x1), (2, .int x1829), (3, .int x1830), (4, .int x1831)] → TY K G H1826 → va_S (AE G [160, 161] s.heap.size) s.heap H1826 locsH1826 → ((-1) ≤ x1829.toInt ∧ x1829.toInt ≤ (-1)) → (0 ≤ x1830.toInt ∧ x1830.toInt ≤ 0) → (0 ≤ x1831.toInt ∧ x1831.toInt ≤ 8) → (gq = fR H1826 a0 (K.1.2 10 68)) → (bq = fR H1826 a0 (K.1.2 10 69)) → (nq = fR H1826 a0 (K.1.2 10 64)) → (lq = fR H1826 a0 (K.1.2 10 66)) → (kq = fR H1826 a0 (K.1.2 10 67)) → (bl = fI H1826 a0 (K.1.2 10 65)) → (nt = fI H1826 a0 (K.1.2 10 62)) → (AB H1826 gq (x1831.toNatClampNeg) (-1) (-1)) → (∀ j : Nat, nfn j = (fI H1826 nq j).toInt) → (∀ j : Nat, bfn j = (fI H1826 lq j).toInt) → (∀ j : Nat, rfn j = (fI H1826 kq j).toInt) → (8 - x1831.toInt < (nf : Int)) → W p l e ({ frames := 2, cells := 0, slots := 0, locals := 45 } : Room) s m (([.ref a0, .int x1] : List Value).toArray) below meth c H1826 locsH1826 0 0 Q (F0 m 7 ls1827 []) := by
    intro nf
    induction nf with
    | zero =>
      intro ls1827 H1826 locsH1826 x1829 x1830 x1831 hl1828 hTH1826 hSH1826 bx1829 bx1830 bx1831 cy1832_0 cy1832_1 cy1832_2 cy1832_3 cy1832_4 cy1832_5 cy1832_6 by1832_ng fy1832_nfn fy1832_bfn fy1832_rfn hm7
      exfalso
      omega
    | succ nf ih7 =>
      intro ls1827 H1826 locsH1826 x1829 x1830 x1831 hl1828 hTH1826 hSH1826 bx1829 bx1830 bx1831 cy1832_0 cy1832_1 cy1832_2 cy1832_3 cy1832_4 cy1832_5 cy1832_6 by1832_ng fy1832_nfn fy1832_bfn fy1832_rfn hm7
      have J37 : ∀ (nf : Nat)  (ls1834 : Array Slot) (H1833 : Heap) (locsH1833 : List Loc) (x1836 : Int32) (x1837 : Int32), lv_has ls1834 6 [(0, .ref a0), (1, .int x1), (2, .int x1836), (3, .int x1837)] → TY K G H1833 → va_S (AE G [160, 161] s.heap.size) s.heap H1833 locsH1833 → ((-2147483648) ≤ x1836.toInt ∧ x1836.toInt ≤ 1023) → ((-1) ≤ x1837.toInt ∧ x1837.toInt ≤ 7) → (gq = fR H1833 a0 (K.1.2 10 68)) → (bq = fR H1833 a0 (K.1.2 10 69)) → (nq = fR H1833 a0 (K.1.2 10 64)) → (lq = fR H1833 a0 (K.1.2 10 66)) → (kq = fR H1833 a0 (K.1.2 10 67)) → (bl = fI H1833 a0 (K.1.2 10 65)) → (nt = fI H1833 a0 (K.1.2 10 62)) → (GW (fun j => fI H1833 gq j) (x1837.toInt) (bl.toInt)) → (∀ j : Nat, nfn j = (fI H1833 nq j).toInt) → (∀ j : Nat, bfn j = (fI H1833 lq j).toInt) → (∀ j : Nat, rfn j = (fI H1833 kq j).toInt) → (gm (fun j => fI H1833 gq j) (x1837.toInt + 1).toNat < (nf : Int)) → (x1837.toInt < nt.toInt) → (HD ((0 ≤ x1837.toInt → goB nfn bfn rfn x1.toInt bl.toNatClampNeg nt.toNatClampNeg [] (-1, []) = kB nfn bfn rfn x1.toInt bl.toNatClampNeg nt.toNatClampNeg (fun j => (fI H1833 gq j).toInt) x1837.toNatClampNeg (x1836.toInt, acL x1836.toInt (fun j => (fI H1833 bq j).toInt) nt.toNatClampNeg)) ∧ (x1837.toInt < 0 → goB nfn bfn rfn x1.toInt bl.toNatClampNeg nt.toNatClampNeg [] (-1, []) = (x1836.toInt, acL x1836.toInt (fun j => (fI H1833 bq j).toInt) nt.toNatClampNeg)))) → (∀ q : Nat, q ≤ x1837.toNatClampNeg → 0 ≤ wsB nfn bfn (pr (fun j => (fI H1833 gq j).toInt) q)) → W p l e ({ frames := 2, cells := 0, slots := 0, locals := 45 } : Room) s m (([.ref a0, .int x1] : List Value).toArray) below meth c H1833 locsH1833 0 0 Q (F0 m 37 ls1834 []) := by
        intro nf
        induction nf with
        | zero =>
          intro  ls1834 H1833 locsH1833 x1836 x1837 hl1835 hTH1833 hSH1833 bx1836 bx1837 cy1838_0 cy1838_1 cy1838_2 cy1838_3 cy1838_4 cy1838_5 cy1838_6 by1838_gw fy1838_nfn fy1838_bfn fy1838_rfn hm37 iv37 hsp37 hws37
          have := gm_pos (m := (x1837.toInt + 1).toNat) by1838_gw (by omega)
          exfalso
          omega
        | succ nf ih37 =>
          intro  ls1834 H1833 locsH1833 x1836 x1837 hl1835 hTH1833 hSH1833 bx1836 bx1837 cy1838_0 cy1838_1 cy1838_2 cy1838_3 cy1838_4 cy1838_5 cy1838_6 by1838_gw fy1838_nfn fy1838_bfn fy1838_rfn hm37 iv37 hsp37 hws37
          have x01839 : ∀ j : Nat, fI H1833 bq j = fI H1833 bq j := fun _ => rfl
          have J117 : ∀ (nf : Nat)  (ls1841 : Array Slot) (H1840 : Heap) (locsH1840 : List Loc) (x1844 : Int32) (x1845 : Int32), lv_has ls1841 6 [(0, .ref a0), (1, .int x1), (2, .int x1836), (3, .int x1837), (4, .int x1844), (5, .int x1845)] → TY K G H1840 → va_S (AE G [160, 161] s.heap.size) s.heap H1840 locsH1840 → (0 ≤ x1837.toInt ∧ x1837.toInt ≤ 7) → ((-800) ≤ x1844.toInt ∧ x1844.toInt ≤ 800) → (0 ≤ x1845.toInt ∧ x1845.toInt ≤ 8) → (gq = fR H1840 a0 (K.1.2 10 68)) → (bq = fR H1840 a0 (K.1.2 10 69)) → (nq = fR H1840 a0 (K.1.2 10 64)) → (lq = fR H1840 a0 (K.1.2 10 66)) → (kq = fR H1840 a0 (K.1.2 10 67)) → (bl = fI H1840 a0 (K.1.2 10 65)) → (nt = fI H1840 a0 (K.1.2 10 62)) → (GW (fun j => fI H1840 gq j) (x1837.toInt) (bl.toInt)) → (gm (fun j => fI H1840 gq j) ((x1837.toInt + 1).toNat) < gm (fun j => fI H1833 gq j) (x1837.toInt + 1).toNat) → (AB H1840 gq (x1837.toNatClampNeg + 1) (0) (7)) → (∀ j : Nat, nfn j = (fI H1840 nq j).toInt) → (∀ j : Nat, bfn j = (fI H1840 lq j).toInt) → (∀ j : Nat, rfn j = (fI H1840 kq j).toInt) → (8 - x1845.toInt < (nf : Int)) → (nt.toInt = x1837.toInt + 1 ∧ -(99 * x1845.toInt) ≤ x1844.toInt ∧ x1844.toInt ≤ 99 * x1845.toInt ∧ x1845.toInt ≤ nt.toInt) → (HD (goB nfn bfn rfn x1.toInt bl.toNatClampNeg nt.toNatClampNeg [] (-1, []) = kB nfn bfn rfn x1.toInt bl.toNatClampNeg nt.toNatClampNeg (fun j => (fI H1840 gq j).toInt) x1837.toNatClampNeg (upB nfn bfn (pr (fun j => (fI H1840 gq j).toInt) nt.toNatClampNeg) (x1836.toInt, acL x1836.toInt (fun j => (fI H1840 bq j).toInt) nt.toNatClampNeg)))) → (x1844.toInt = wsB nfn bfn (pr (fun j => (fI H1840 gq j).toInt) x1845.toNatClampNeg)) → (∀ q : Nat, q ≤ x1837.toNatClampNeg → 0 ≤ wsB nfn bfn (pr (fun j => (fI H1840 gq j).toInt) q)) → (0 ≤ wsB nfn bfn (pr (fun j => (fI H1840 gq j).toInt) nt.toNatClampNeg)) → W p l e ({ frames := 2, cells := 0, slots := 0, locals := 45 } : Room) s m (([.ref a0, .int x1] : List Value).toArray) below meth c H1840 locsH1840 0 0 Q (F0 m 117 ls1841 []) := by
            intro nf
            induction nf with
            | zero =>
              intro  ls1841 H1840 locsH1840 x1844 x1845 hl1842 hTH1840 hSH1840 b1843 bx1844 bx1845 cy1846_0 cy1846_1 cy1846_2 cy1846_3 cy1846_4 cy1846_5 cy1846_6 by1846_gw by1846_gm by1846_gv fy1846_nfn fy1846_bfn fy1846_rfn hm117 iv117 hsp117 hsm117 hws117 hwn117
              exfalso
              omega
            | succ nf ih117 =>
              intro  ls1841 H1840 locsH1840 x1844 x1845 hl1842 hTH1840 hSH1840 b1843 bx1844 bx1845 cy1846_0 cy1846_1 cy1846_2 cy1846_3 cy1846_4 cy1846_5 cy1846_6 by1846_gw by1846_gm by1846_gv fy1846_nfn fy1846_bfn fy1846_rfn hm117 iv117 hsp117 hsm117 hws117 hwn117
              have cn_x1845 := i_cl (x := x1845) (by omega)
              have cn_x1837 := i_cl (x := x1837) (by omega)
              have cn_nt := i_cl (x := nt) (by omega)
              have cn_bl := i_cl (x := bl) (by omega)
              have x01847 : ∀ j : Nat, fI H1840 bq j = fI H1840 bq j := fun _ => rfl
              have J171 : ∀  (ls1849 : Array Slot) (H1848 : Heap) (locsH1848 : List Loc) , lv_has ls1849 6 [(0, .ref a0), (1, .int x1), (3, .int x1837), (4, .int x1844)] → TY K G H1848 → va_S (AE G [160, 161] s.heap.size) s.heap H1848 locsH1848 → (gq = fR H1848 a0 (K.1.2 10 68)) → (bq = fR H1848 a0 (K.1.2 10 69)) → (nq = fR H1848 a0 (K.1.2 10 64)) → (lq = fR H1848 a0 (K.1.2 10 66)) → (kq = fR H1848 a0 (K.1.2 10 67)) → (bl = fI H1848 a0 (K.1.2 10 65)) → (nt = fI H1848 a0 (K.1.2 10 62)) → (GW (fun j => fI H1848 gq j) (x1837.toInt) (bl.toInt)) → (gm (fun j => fI H1848 gq j) ((x1837.toInt + 1).toNat) < gm (fun j => fI H1833 gq j) (x1837.toInt + 1).toNat) → (AB H1848 gq (x1837.toNatClampNeg + 1) (0) (7)) → (∀ j : Nat, nfn j = (fI H1848 nq j).toInt) → (∀ j : Nat, bfn j = (fI H1848 lq j).toInt) → (∀ j : Nat, rfn j = (fI H1848 kq j).toInt) → (nt.toInt = x1837.toInt + 1) → (HD (goB nfn bfn rfn x1.toInt bl.toNatClampNeg nt.toNatClampNeg [] (-1, []) = kB nfn bfn rfn x1.toInt bl.toNatClampNeg nt.toNatClampNeg (fun j => (fI H1848 gq j).toInt) x1837.toNatClampNeg (x1844.toInt, pr (fun j => (fI H1848 gq j).toInt) nt.toNatClampNeg))) → (∀ q : Nat, q ≤ x1837.toNatClampNeg → 0 ≤ wsB nfn bfn (pr (fun j => (fI H1848 gq j).toInt) q)) → (0 ≤ x1844.toInt) → W p l e ({ frames := 2, cells := 0, slots := 0, locals := 45 } : Room) s m (([.ref a0, .int x1] : List Value).toArray) below meth c H1848 locsH1848 0 0 Q (F0 m 171 ls1849 []) := by
                intro  ls1849 H1848 locsH1848  hl1850 hTH1848 hSH1848 cy1851_0 cy1851_1 cy1851_2 cy1851_3 cy1851_4 cy1851_5 cy1851_6 by1851_gw by1851_gm by1851_gv fy1851_nfn fy1851_bfn fy1851_rfn iv171 hsp171 hws171 hnn171
                have cn_x1837 := i_cl (x := x1837) (by omega)
                have cn_nt := i_cl (x := nt) (by omega)
                have x01852 : ∀ j : Nat, fI H1848 bq j = fI H1848 bq j := fun _ => rfl
                have J177 : ∀ (nf : Nat)  (ls1854 : Array Slot) (H1853 : Heap) (locsH1853 : List Loc) (x1856 : Int32) (x1857 : Int32), lv_has ls1854 6 [(0, .ref a0), (1, .int x1), (2, .int x1856), (3, .int x1837), (5, .int x1857)] → TY K G H1853 → va_S (AE G [160, 161] s.heap.size) s.heap H1853 locsH1853 → ((-800) ≤ x1856.toInt ∧ x1856.toInt ≤ 800) → (0 ≤ x1857.toInt ∧ x1857.toInt ≤ 8) → (gq = fR H1853 a0 (K.1.2 10 68)) → (bq = fR H1853 a0 (K.1.2 10 69)) → (nq = fR H1853 a0 (K.1.2 10 64)) → (lq = fR H1853 a0 (K.1.2 10 66)) → (kq = fR H1853 a0 (K.1.2 10 67)) → (bl = fI H1853 a0 (K.1.2 10 65)) → (nt = fI H1853 a0 (K.1.2 10 62)) → (GW (fun j => fI H1853 gq j) (x1837.toInt) (bl.toInt)) → (gm (fun j => fI H1853 gq j) ((x1837.toInt + 1).toNat) < gm (fun j => fI H1833 gq j) (x1837.toInt + 1).toNat) → (AB H1853 gq (x1837.toNatClampNeg + 1) (0) (7)) → (∀ j : Nat, nfn j = (fI H1853 nq j).toInt) → (∀ j : Nat, bfn j = (fI H1853 lq j).toInt) → (∀ j : Nat, rfn j = (fI H1853 kq j).toInt) → (8 - x1857.toInt < (nf : Int)) → (nt.toInt = x1837.toInt + 1 ∧ x1857.toInt ≤ nt.toInt) → (HD (goB nfn bfn rfn x1.toInt bl.toNatClampNeg nt.toNatClampNeg [] (-1, []) = kB nfn bfn rfn x1.toInt bl.toNatClampNeg nt.toNatClampNeg (fun j => (fI H1853 gq j).toInt) x1837.toNatClampNeg (x1856.toInt, pr (fun j => (fI H1853 gq j).toInt) nt.toNatClampNeg))) → (∀ q : Nat, q ≤ x1837.toNatClampNeg → 0 ≤ wsB nfn bfn (pr (fun j => (fI H1853 gq j).toInt) q)) → (0 ≤ x1856.toInt) → (pr (fun j => (fI H1853 bq j).toInt) x1857.toNatClampNeg = pr (fun j => (fI H1853 gq j).toInt) x1857.toNatClampNeg) → W p l e ({ frames := 2, cells := 0, slots := 0, locals := 45 } : Room) s m (([.ref a0, .int x1] : List Value).toArray) below meth c H1853 locsH1853 0 0 Q (F0 m 177 ls1854 []) := by
                  intro nf
                  induction nf with
                  | zero =>
                    intro  ls1854 H1853 locsH1853 x1856 x1857 hl1855 hTH1853 hSH1853 bx1856 bx1857 cy1858_0 cy1858_1 cy1858_2 cy1858_3 cy1858_4 cy1858_5 cy1858_6 by1858_gw by1858_gm by1858_gv fy1858_nfn fy1858_bfn fy1858_rfn hm177 iv177 hsp177 hws177 hnn177 hbg177
                    exfalso
                    omega
                  | succ nf ih177 =>
                    intro  ls1854 H1853 locsH1853 x1856 x1857 hl1855 hTH1853 hSH1853 bx1856 bx1857 cy1858_0 cy1858_1 cy1858_2 cy1858_3 cy1858_4 cy1858_5 cy1858_6 by1858_gw by1858_gm by1858_gv fy1858_nfn fy1858_bfn fy1858_rfn hm177 iv177 hsp177 hws177 hnn177 hbg177
                    have cn_x1857 := i_cl (x := x1857) (by omega)
                    have cn_x1837 := i_cl (x := x1837) (by omega)
                    have cn_nt := i_cl (x := nt) (by omega)
                    have cn_bl := i_cl (x := bl) (by omega)
                    refine lv_iload hx hb dX10_leastWaste_177 (lv_at hl1855 4 rfl) ?_
                    refine lv_aload_n hx hb dX10_leastWaste_179 rfl (lv_at hl1855 0 rfl) ?_
                    refine x_gi C hTH1853 (ci := 10) (k := 62) rfl inX10 (by decide) wF_X10_455 ga0 rg_112 rfl dX10_leastWaste_180 (fun x1859 ex1859 bx1859 => ?_)
                    have ux1859 : nt = x1859 := (cy1858_6).trans ex1859.symm
                    subst ux1859
                    refine lv_icmp_ge (tgt := 206) hx hb dX10_leastWaste_183 (by decide) (fun c1860 => ?_) (fun c1860 => ?_)
                    · have k1861 := i_le c1860
                      refine lv_goto (tgt := 37) hx hb dX10_leastWaste_206 (by decide) ?_
                      have hmm : gm (fun j => fI H1853 gq j) (x1837.toInt + 1).toNat < gm (fun j => fI H1833 gq j) (x1837.toInt + 1).toNat := by
                        have e0 : (x1837.toInt + 1).toNat = (x1837.toInt + 1).toNat := by omega
                        rw [e0]
                        exact by1858_gm
                      have cn_x1837 := i_cl (x := x1837) (by omega)
                      have cn_nt := i_cl (x := nt) (by omega)
                      have cn_x1837 := i_cl (x := x1837) (by omega)
                      have ebg_ : acL x1856.toInt (fun j => (fI H1853 bq j).toInt) nt.toNatClampNeg = pr (fun j => (fI H1853 gq j).toInt) nt.toNatClampNeg := by unfold acL; rw [if_neg (by omega), ← show x1857.toNatClampNeg = nt.toNatClampNeg by omega]; exact hbg177
                      exact ih37  ls1854 H1853 locsH1853 (x1856) (x1837) (lv_sub hl1855 [0, 1, 2, 3] rfl) hTH1853 hSH1853 (by have := i_rng x1856; omega) (by have := i_rng x1837; omega) cy1858_0 cy1858_1 cy1858_2 cy1858_3 cy1858_4 cy1858_5 cy1858_6 (GW.cast by1858_gw (by omega)) fy1858_nfn fy1858_bfn fy1858_rfn (by omega) (by omega) (HD.mk ⟨fun _ => (HD.get hsp177).trans (by rw [ebg_]), (fun h => by exfalso; omega)⟩) hws177
                    · have k1861 := i_nle c1860
                      have ci := i_cl (x := x1837) (by omega)
                      refine lv_aload_n hx hb dX10_leastWaste_186 rfl (lv_at hl1855 0 rfl) ?_
                      refine x_gr C hTH1853 (ci := 10) (k := 69) rfl inX10 (by decide) wF_X10_161 ga0 rg_112 rfl dX10_leastWaste_187 (fun q1862 eq1862 gq1862 => ?_)
                      have uq1862 : bq = q1862 := (cy1858_1).trans eq1862.symm
                      subst uq1862
                      refine lv_iload hx hb dX10_leastWaste_190 (lv_at hl1855 4 rfl) ?_
                      refine lv_aload_n hx hb dX10_leastWaste_192 rfl (lv_at hl1855 0 rfl) ?_
                      refine x_gr C hTH1853 (ci := 10) (k := 68) rfl inX10 (by decide) wF_X10_158 ga0 rg_112 rfl dX10_leastWaste_193 (fun q1863 eq1863 gq1863 => ?_)
                      have uq1863 : gq = q1863 := (cy1858_0).trans eq1863.symm
                      subst uq1863
                      refine lv_iload hx hb dX10_leastWaste_196 (lv_at hl1855 4 rfl) ?_
                      refine x_ai C hTH1853 ggq rg_160 ⟨by omega, by show _ < ((8 : Nat) : Int); omega⟩ dX10_leastWaste_198 (fun x1864 ex1864 bx1864 => ?_)
                      have clx1864 := i_cl (x := x1857) (by omega)
                      have abx1864 := (by1858_gv).at ex1864 (by omega)
                      have hg_x1864 : 0 ≤ x1864.toInt ∧ x1864.toInt < bl.toInt := by have c_ := i_cl (x := x1857) (by omega); have p_ := i_cl (x := x1837) (by omega); have a_ := by1858_gw x1857.toNatClampNeg (by omega); have b_ := by1858_gv x1857.toNatClampNeg (by omega); dsimp only at a_; rw [← ex1864] at a_ b_; omega
                      refine x_iast C hTH1853 hSH1853 gbq rg_161 (by omega) (by show _ < ((8 : Nat) : Int); omega) ⟨by have := i_rng x1864; omega, by have := i_rng x1864; omega⟩ (AE_in gbq (by decide)) dX10_leastWaste_199 (fun H1865 locsH1865 hTH1865 hSH1865 wH1865 => ?_)
                      have b1866 : GW (fun j => fI H1865 gq j) (x1837.toInt) (bl.toInt) := GW.congr (fun j => Wr.neI wH1865 (Or.inl (G_ne ggq gbq (by decide)))) by1858_gw
                      have b1867 : gm (fun j => fI H1865 gq j) ((x1837.toInt + 1).toNat) < gm (fun j => fI H1833 gq j) (x1837.toInt + 1).toNat := gm_congr (fun j => Wr.neI wH1865 (Or.inl (G_ne ggq gbq (by decide)))) by1858_gm
                      have b1868 : AB H1865 gq (x1837.toNatClampNeg + 1) (0) (7) := AB.kept (fun j => Wr.neI wH1865 (Or.inl (G_ne ggq gbq (by decide)))) by1858_gv
                      have f1869 : ∀ j : Nat, nfn j = (fI H1865 nq j).toInt := fun j => (fy1858_nfn j).trans (congrArg Int32.toInt (Wr.neI wH1865 (Or.inl (G_ne gnq gbq (by decide)))).symm)
                      have f1870 : ∀ j : Nat, bfn j = (fI H1865 lq j).toInt := fun j => (fy1858_bfn j).trans (congrArg Int32.toInt (Wr.neI wH1865 (Or.inl (G_ne glq gbq (by decide)))).symm)
                      have f1871 : ∀ j : Nat, rfn j = (fI H1865 kq j).toInt := fun j => (fy1858_rfn j).trans (congrArg Int32.toInt (Wr.neI wH1865 (Or.inl (G_ne gkq gbq (by decide)))).symm)
                      have m1872 := cy1858_0.trans (Wr.neR wH1865 (Or.inl (G_ne ga0 gbq (by decide)))).symm
                      have m1873 := cy1858_1.trans (Wr.neR wH1865 (Or.inl (G_ne ga0 gbq (by decide)))).symm
                      have m1874 := cy1858_2.trans (Wr.neR wH1865 (Or.inl (G_ne ga0 gbq (by decide)))).symm
                      have m1875 := cy1858_3.trans (Wr.neR wH1865 (Or.inl (G_ne ga0 gbq (by decide)))).symm
                      have m1876 := cy1858_4.trans (Wr.neR wH1865 (Or.inl (G_ne ga0 gbq (by decide)))).symm
                      have m1877 := cy1858_5.trans (Wr.neI wH1865 (Or.inl (G_ne ga0 gbq (by decide)))).symm
                      have m1878 := cy1858_6.trans (Wr.neI wH1865 (Or.inl (G_ne ga0 gbq (by decide)))).symm
                      have m1879 := ex1864.trans (Wr.neI wH1865 (Or.inl (G_ne ggq gbq (by decide)))).symm
                      have m1880 := Wr.I wH1865
                      have m1880 := m1880.symm
                      obtain ⟨x1881, ex1881⟩ : ∃ y : Int32, y = x1857 + 1 := ⟨_, rfl⟩
                      have tx1881 := i_add ex1881 (by omega)
                      refine lv_iinc (v := x1881) (lv' := [(5, .int x1881), (0, .ref a0), (1, .int x1), (2, .int x1856), (3, .int x1837)]) hx hb dX10_leastWaste_200 hl1855 (k := 4) rfl (by rw [ex1881]; rfl) (by decide) rfl (fun ls1882 hl1883 => ?_)
                      refine lv_goto (tgt := 177) hx hb dX10_leastWaste_203 (by decide) ?_
                      have cl_x1837 := i_cl (x := x1837) (by omega)
                      have cn_x1881 := i_cl (x := x1881) (by omega)
                      have eg_ : (fun j => (fI H1865 gq j).toInt) = (fun j => (fI H1853 gq j).toInt) := funext fun j => congrArg Int32.toInt (Wr.neI wH1865 (Or.inl (G_ne ggq gbq (by decide))))
                      have hb_ : pr (fun j => (fI H1865 bq j).toInt) x1881.toNatClampNeg = pr (fun j => (fI H1865 gq j).toInt) x1881.toNatClampNeg := by rw [show x1881.toNatClampNeg = x1857.toNatClampNeg + 1 by omega]; exact pr_s (congrArg Int32.toInt ((Wr.I wH1865).trans (ex1864.trans (Wr.neI wH1865 (Or.inl (G_ne ggq gbq (by decide)))).symm))) ((pr_c x1857.toNatClampNeg (fun j hj => congrArg Int32.toInt (Wr.neI wH1865 (Or.inr (by omega))))).trans (hbg177.trans (by rw [eg_])))
                      exact ih177  ls1882 H1865 locsH1865 (x1856) (x1881) (lv_sub hl1883 [1, 2, 3, 4, 0] rfl) hTH1865 hSH1865 (by have := i_rng x1856; omega) (by have := i_rng x1881; omega) m1872 m1873 m1874 m1875 m1876 m1877 m1878 (GW.cast b1866 (by omega)) b1867 (AB.weak b1868 (by omega) (by omega) (by omega)) f1869 f1870 f1871 (by omega) (by omega) (HD.mk ((HD.get hsp177).trans (by rw [eg_]))) (fun q hq => by rw [eg_]; exact hws177 q hq) hnn177 hb_
                refine lv_iload hx hb dX10_leastWaste_171 (lv_at hl1850 3 rfl) ?_
                refine lv_istore_n (lv' := [(2, .int x1844), (0, .ref a0), (1, .int x1), (3, .int x1837), (4, .int x1844)]) hx hb dX10_leastWaste_173 rfl hl1850 (by decide) rfl (fun ls1884 hl1885 => ?_)
                refine lv_iconst (v := 0) hx hb dX10_leastWaste_174 (by decide) ?_
                refine lv_istore (lv' := [(5, .int 0), (2, .int x1844), (0, .ref a0), (1, .int x1), (3, .int x1837), (4, .int x1844)]) hx hb dX10_leastWaste_175 hl1885 (by decide) rfl (fun ls1886 hl1887 => ?_)
                have cl_x1837 := i_cl (x := x1837) (by omega)
                have c00_ : (0 : Int32).toNatClampNeg = 0 := rfl
                exact J177 ((8 - (0 : Int32).toInt).toNat + 1)  ls1886 H1848 locsH1848 (x1844) (0) (lv_sub hl1887 [2, 3, 1, 4, 0] rfl) hTH1848 hSH1848 (by have := i_rng x1844; omega) (by decide) cy1851_0 cy1851_1 cy1851_2 cy1851_3 cy1851_4 cy1851_5 cy1851_6 (GW.cast by1851_gw (by omega)) by1851_gm (AB.weak by1851_gv (by omega) (by omega) (by omega)) fy1851_nfn fy1851_bfn fy1851_rfn (by omega) (by omega) hsp171 hws171 hnn171 (pr_00 c00_ c00_)
              refine lv_iload hx hb dX10_leastWaste_117 (lv_at hl1842 5 rfl) ?_
              refine lv_aload_n hx hb dX10_leastWaste_119 rfl (lv_at hl1842 0 rfl) ?_
              refine x_gi C hTH1840 (ci := 10) (k := 62) rfl inX10 (by decide) wF_X10_455 ga0 rg_112 rfl dX10_leastWaste_120 (fun x1888 ex1888 bx1888 => ?_)
              have ux1888 : nt = x1888 := (cy1846_6).trans ex1888.symm
              subst ux1888
              refine lv_icmp_ge (tgt := 157) hx hb dX10_leastWaste_123 (by decide) (fun c1889 => ?_) (fun c1889 => ?_)
              · have k1890 := i_le c1889
                refine lv_iload_n hx hb dX10_leastWaste_157 rfl (lv_at hl1842 2 rfl) ?_
                refine lv_iconst (v := (-1)) hx hb dX10_leastWaste_158 (by decide) ?_
                refine lv_icmp_eq (tgt := 171) hx hb dX10_leastWaste_159 (by decide) (fun c1891 => ?_) (fun c1891 => ?_)
                · have k1892 := i_eq c1891
                  have cl_x1837 := i_cl (x := x1837) (by omega)
                  have cn_x1845 := i_cl (x := x1845) (by omega)
                  have cn_nt := i_cl (x := nt) (by omega)
                  have hj_ : x1845.toNatClampNeg = nt.toNatClampNeg := by omega
                  rw [hj_] at hsm117
                  exact J171  ls1841 H1840 locsH1840 (lv_sub hl1842 [0, 1, 3, 4] rfl) hTH1840 hSH1840 cy1846_0 cy1846_1 cy1846_2 cy1846_3 cy1846_4 cy1846_5 cy1846_6 (GW.cast by1846_gw (by omega)) by1846_gm (AB.weak by1846_gv (by omega) (by omega) (by omega)) fy1846_nfn fy1846_bfn fy1846_rfn (by omega) (HD.mk ((HD.get hsp117).trans (by rw [up_yes hsm117 (by omega)]))) hws117 (by omega)
                · have k1892 := i_ne c1891
                  refine lv_iload hx hb dX10_leastWaste_162 (lv_at hl1842 4 rfl) ?_
                  refine lv_iload_n hx hb dX10_leastWaste_164 rfl (lv_at hl1842 2 rfl) ?_
                  refine lv_icmp_lt (tgt := 171) hx hb dX10_leastWaste_165 (by decide) (fun c1893 => ?_) (fun c1893 => ?_)
                  · have k1894 := i_lt c1893
                    have cl_x1837 := i_cl (x := x1837) (by omega)
                    have cn_x1845 := i_cl (x := x1845) (by omega)
                    have cn_nt := i_cl (x := nt) (by omega)
                    have hj_ : x1845.toNatClampNeg = nt.toNatClampNeg := by omega
                    rw [hj_] at hsm117
                    exact J171  ls1841 H1840 locsH1840 (lv_sub hl1842 [0, 1, 3, 4] rfl) hTH1840 hSH1840 cy1846_0 cy1846_1 cy1846_2 cy1846_3 cy1846_4 cy1846_5 cy1846_6 (GW.cast by1846_gw (by omega)) by1846_gm (AB.weak by1846_gv (by omega) (by omega) (by omega)) fy1846_nfn fy1846_bfn fy1846_rfn (by omega) (HD.mk ((HD.get hsp117).trans (by rw [up_yes hsm117 (by omega)]))) hws117 (by omega)
                  · have k1894 := i_nlt c1893
                    refine lv_goto (tgt := 37) hx hb dX10_leastWaste_168 (by decide) ?_
                    have hmm : gm (fun j => fI H1840 gq j) (x1837.toInt + 1).toNat < gm (fun j => fI H1833 gq j) (x1837.toInt + 1).toNat := by
                      have e0 : (x1837.toInt + 1).toNat = (x1837.toInt + 1).toNat := by omega
                      rw [e0]
                      exact by1846_gm
                    have cn_x1837 := i_cl (x := x1837) (by omega)
                    have cn_nt := i_cl (x := nt) (by omega)
                    have cn_x1837 := i_cl (x := x1837) (by omega)
                    have hsw_ := hsm117
                    rw [show x1845.toNatClampNeg = nt.toNatClampNeg by omega] at hsw_
                    exact ih37  ls1841 H1840 locsH1840 (x1836) (x1837) (lv_sub hl1842 [0, 1, 2, 3] rfl) hTH1840 hSH1840 (by have := i_rng x1836; omega) (by have := i_rng x1837; omega) cy1846_0 cy1846_1 cy1846_2 cy1846_3 cy1846_4 cy1846_5 cy1846_6 (GW.cast by1846_gw (by omega)) fy1846_nfn fy1846_bfn fy1846_rfn (by omega) (by omega) (HD.mk ⟨fun _ => (HD.get hsp117).trans (by rw [up_no hsw_ (by omega)]), (fun h => by exfalso; omega)⟩) hws117
              · have k1890 := i_nle c1889
                have ci := i_cl (x := x1837) (by omega)
                refine lv_iload hx hb dX10_leastWaste_126 (lv_at hl1842 4 rfl) ?_
                refine lv_aload_n hx hb dX10_leastWaste_128 rfl (lv_at hl1842 0 rfl) ?_
                refine x_gr C hTH1840 (ci := 10) (k := 66) rfl inX10 (by decide) wF_X10_152 ga0 rg_112 rfl dX10_leastWaste_129 (fun q1895 eq1895 gq1895 => ?_)
                have uq1895 : lq = q1895 := (cy1846_3).trans eq1895.symm
                subst uq1895
                refine lv_aload_n hx hb dX10_leastWaste_132 rfl (lv_at hl1842 0 rfl) ?_
                refine x_gr C hTH1840 (ci := 10) (k := 68) rfl inX10 (by decide) wF_X10_158 ga0 rg_112 rfl dX10_leastWaste_133 (fun q1896 eq1896 gq1896 => ?_)
                have uq1896 : gq = q1896 := (cy1846_0).trans eq1896.symm
                subst uq1896
                refine lv_iload hx hb dX10_leastWaste_136 (lv_at hl1842 5 rfl) ?_
                refine x_ai C hTH1840 ggq rg_160 ⟨by omega, by show _ < ((8 : Nat) : Int); omega⟩ dX10_leastWaste_138 (fun x1897 ex1897 bx1897 => ?_)
                have clx1897 := i_cl (x := x1845) (by omega)
                have abx1897 := (by1846_gv).at ex1897 (by omega)
                have hg_x1897 : 0 ≤ x1897.toInt ∧ x1897.toInt < bl.toInt := by have c_ := i_cl (x := x1845) (by omega); have p_ := i_cl (x := x1837) (by omega); have a_ := by1846_gw x1845.toNatClampNeg (by omega); have b_ := by1846_gv x1845.toNatClampNeg (by omega); dsimp only at a_; rw [← ex1897] at a_ b_; omega
                refine x_ai C hTH1840 glq rg_158 ⟨by omega, by show _ < ((8 : Nat) : Int); omega⟩ dX10_leastWaste_139 (fun x1898 ex1898 bx1898 => ?_)
                have qvx1898 : bfn x1897.toNatClampNeg = x1898.toInt := (fy1846_bfn _).trans (congrArg Int32.toInt ex1898.symm)
                have hn_x1898 : 0 ≤ x1898.toInt ∧ x1898.toInt ≤ 99 := by have c_ := i_cl (x := x1897) (by omega); have d_ := i_cl (x := bl) (by omega); have q_ := hy1 x1897.toNatClampNeg (by omega); omega
                refine lv_iadd hx hb dX10_leastWaste_140 ?_
                refine lv_topi (fun x1899 ex1899 => ?_)
                have tx1899 := i_add ex1899 (by omega)
                refine lv_aload_n hx hb dX10_leastWaste_141 rfl (lv_at hl1842 0 rfl) ?_
                refine x_gr C hTH1840 (ci := 10) (k := 64) rfl inX10 (by decide) wF_X10_149 ga0 rg_112 rfl dX10_leastWaste_142 (fun q1900 eq1900 gq1900 => ?_)
                have uq1900 : nq = q1900 := (cy1846_2).trans eq1900.symm
                subst uq1900
                refine lv_iload hx hb dX10_leastWaste_145 (lv_at hl1842 5 rfl) ?_
                refine x_ai C hTH1840 gnq rg_157 ⟨by omega, by show _ < ((8 : Nat) : Int); omega⟩ dX10_leastWaste_147 (fun x1901 ex1901 bx1901 => ?_)
                have qvx1901 : nfn x1845.toNatClampNeg = x1901.toInt := (fy1846_nfn _).trans (congrArg Int32.toInt ex1901.symm)
                have hn_x1901 : 0 ≤ x1901.toInt ∧ x1901.toInt ≤ 99 := by have c_ := i_cl (x := x1845) (by omega); have d_ := i_cl (x := nt) (by omega); have q_ := hy0 x1845.toNatClampNeg (by omega); omega
                refine lv_isub hx hb dX10_leastWaste_148 ?_
                refine lv_topi (fun x1902 ex1902 => ?_)
                have tx1902 := i_sub ex1902 (by omega)
                refine lv_istore (lv' := [(4, .int x1902), (0, .ref a0), (1, .int x1), (2, .int x1836), (3, .int x1837), (5, .int x1845)]) hx hb dX10_leastWaste_149 hl1842 (by decide) rfl (fun ls1903 hl1904 => ?_)
                obtain ⟨x1905, ex1905⟩ : ∃ y : Int32, y = x1845 + 1 := ⟨_, rfl⟩
                have tx1905 := i_add ex1905 (by omega)
                refine lv_iinc (v := x1905) (lv' := [(5, .int x1905), (4, .int x1902), (0, .ref a0), (1, .int x1), (2, .int x1836), (3, .int x1837)]) hx hb dX10_leastWaste_151 hl1904 (k := 5) rfl (by rw [ex1905]; rfl) (by decide) rfl (fun ls1906 hl1907 => ?_)
                refine lv_goto (tgt := 117) hx hb dX10_leastWaste_154 (by decide) ?_
                have cl_x1837 := i_cl (x := x1837) (by omega)
                have cn_x1905 := i_cl (x := x1905) (by omega)
                have tb_x1897 : x1897.toNatClampNeg = (x1897.toInt).toNat := by have c_ := i_cl (x := x1897) (by omega); omega
                have qb_ : bfn ((fI H1840 gq x1845.toNatClampNeg).toInt).toNat = _ := (congrArg bfn (show ((fI H1840 gq x1845.toNatClampNeg).toInt).toNat = x1897.toNatClampNeg by rw [← ex1897]; omega)).trans qvx1898
                have hs_ : x1902.toInt = wsB nfn bfn (pr (fun j => (fI H1840 gq j).toInt) x1905.toNatClampNeg) := by rw [show x1905.toNatClampNeg = x1845.toNatClampNeg + 1 by omega, pr, wsB, pr_len]; have qn_ := qvx1901; omega
                exact ih117  ls1906 H1840 locsH1840 (x1902) (x1905) (lv_sub hl1907 [2, 3, 4, 5, 1, 0] rfl) hTH1840 hSH1840 (by have := i_rng x1837; omega) (by have := i_rng x1902; omega) (by have := i_rng x1905; omega) cy1846_0 cy1846_1 cy1846_2 cy1846_3 cy1846_4 cy1846_5 cy1846_6 (GW.cast by1846_gw (by omega)) by1846_gm (AB.weak by1846_gv (by omega) (by omega) (by omega)) fy1846_nfn fy1846_bfn fy1846_rfn (by omega) (by omega) hsp117 hs_ hws117 hwn117
          refine lv_iload_n hx hb dX10_leastWaste_37 rfl (lv_at hl1835 3 rfl) ?_
          refine lv_if_lt (tgt := 209) hx hb dX10_leastWaste_38 (by decide) (fun c1908 => ?_) (fun c1908 => ?_)
          · have k1909 := i_lt c1908
            refine lv_iload_n hx hb dX10_leastWaste_209 rfl (lv_at hl1835 2 rfl) ?_
            exact x_iret C hQ dX10_leastWaste_210 hSH1833 (by decide) (by decide) (⟨x1836, rfl, HD.mk ((HD.get hsp37).2 (by omega)), hTH1833⟩)
          · have k1909 := i_nlt c1908
            refine lv_aload_n hx hb dX10_leastWaste_41 rfl (lv_at hl1835 0 rfl) ?_
            refine x_gr C hTH1833 (ci := 10) (k := 68) rfl inX10 (by decide) wF_X10_158 ga0 rg_112 rfl dX10_leastWaste_42 (fun q1910 eq1910 gq1910 => ?_)
            have uq1910 : gq = q1910 := (cy1838_0).trans eq1910.symm
            subst uq1910
            refine lv_iload_n hx hb dX10_leastWaste_45 rfl (lv_at hl1835 3 rfl) ?_
            refine lv_aload_n hx hb dX10_leastWaste_46 rfl (lv_at hl1835 0 rfl) ?_
            refine x_gr C hTH1833 (ci := 10) (k := 68) rfl inX10 (by decide) wF_X10_158 ga0 rg_112 rfl dX10_leastWaste_47 (fun q1911 eq1911 gq1911 => ?_)
            have uq1911 : gq = q1911 := (cy1838_0).trans eq1911.symm
            subst uq1911
            refine lv_iload_n hx hb dX10_leastWaste_50 rfl (lv_at hl1835 3 rfl) ?_
            refine x_ai C hTH1833 ggq rg_160 ⟨by omega, by show _ < ((8 : Nat) : Int); omega⟩ dX10_leastWaste_51 (fun x1912 ex1912 bx1912 => ?_)
            have ck0 := i_cl (x := x1837) (by omega)
            have hx0 := ((by1838_gw) x1837.toNatClampNeg (by omega)).2.1 (by omega)
            dsimp only at hx0
            rw [← ex1912] at hx0
            refine lv_iconst (v := 1) hx hb dX10_leastWaste_52 (by decide) ?_
            refine lv_iadd hx hb dX10_leastWaste_53 ?_
            refine lv_topi (fun x1913 ex1913 => ?_)
            have tx1913 := i_add ex1913 (by omega)
            refine x_iast C hTH1833 hSH1833 ggq rg_160 (by omega) (by show _ < ((8 : Nat) : Int); omega) ⟨by have := i_rng x1913; omega, by have := i_rng x1913; omega⟩ (AE_in ggq (by decide)) dX10_leastWaste_54 (fun H1914 locsH1914 hTH1914 hSH1914 wH1914 => ?_)
            have f1915 : ∀ j : Nat, nfn j = (fI H1914 nq j).toInt := fun j => (fy1838_nfn j).trans (congrArg Int32.toInt (Wr.neI wH1914 (Or.inl (G_ne gnq ggq (by decide)))).symm)
            have f1916 : ∀ j : Nat, bfn j = (fI H1914 lq j).toInt := fun j => (fy1838_bfn j).trans (congrArg Int32.toInt (Wr.neI wH1914 (Or.inl (G_ne glq ggq (by decide)))).symm)
            have f1917 : ∀ j : Nat, rfn j = (fI H1914 kq j).toInt := fun j => (fy1838_rfn j).trans (congrArg Int32.toInt (Wr.neI wH1914 (Or.inl (G_ne gkq ggq (by decide)))).symm)
            have f1918 : ∀ j : Nat, fI H1914 bq j = fI H1833 bq j := fun j => (fI_kept (wH1914.off (G_ne gbq ggq (by decide)))).trans (x01839 j)
            have m1919 := cy1838_0.trans (Wr.neR wH1914 (Or.inl (G_ne ga0 ggq (by decide)))).symm
            have m1920 := cy1838_1.trans (Wr.neR wH1914 (Or.inl (G_ne ga0 ggq (by decide)))).symm
            have m1921 := cy1838_2.trans (Wr.neR wH1914 (Or.inl (G_ne ga0 ggq (by decide)))).symm
            have m1922 := cy1838_3.trans (Wr.neR wH1914 (Or.inl (G_ne ga0 ggq (by decide)))).symm
            have m1923 := cy1838_4.trans (Wr.neR wH1914 (Or.inl (G_ne ga0 ggq (by decide)))).symm
            have m1924 := cy1838_5.trans (Wr.neI wH1914 (Or.inl (G_ne ga0 ggq (by decide)))).symm
            have m1925 := cy1838_6.trans (Wr.neI wH1914 (Or.inl (G_ne ga0 ggq (by decide)))).symm
            have m1927 := Wr.I wH1914
            have m1927 := m1927.symm
            have ck := i_cl (x := x1837) (by omega)
            refine lv_aload_n hx hb dX10_leastWaste_55 rfl (lv_at hl1835 0 rfl) ?_
            refine x_gr C hTH1914 (ci := 10) (k := 68) rfl inX10 (by decide) wF_X10_158 ga0 rg_112 rfl dX10_leastWaste_56 (fun q1928 eq1928 gq1928 => ?_)
            have uq1928 : gq = q1928 := (m1919).trans eq1928.symm
            subst uq1928
            refine lv_iload_n hx hb dX10_leastWaste_59 rfl (lv_at hl1835 3 rfl) ?_
            refine x_ai C hTH1914 ggq rg_160 ⟨by omega, by show _ < ((8 : Nat) : Int); omega⟩ dX10_leastWaste_60 (fun x1929 ex1929 bx1929 => ?_)
            have ux1929 : x1913 = x1929 := (m1927).trans ex1929.symm
            subst ux1929
            refine lv_aload_n hx hb dX10_leastWaste_61 rfl (lv_at hl1835 0 rfl) ?_
            refine x_gi C hTH1914 (ci := 10) (k := 65) rfl inX10 (by decide) wF_X10_458 ga0 rg_112 rfl dX10_leastWaste_62 (fun x1930 ex1930 bx1930 => ?_)
            have ux1930 : bl = x1930 := (m1924).trans ex1930.symm
            subst ux1930
            refine lv_icmp_lt (tgt := 82) hx hb dX10_leastWaste_65 (by decide) (fun c1931 => ?_) (fun c1931 => ?_)
            · have k1932 := i_lt c1931
              have ev : (fI H1914 gq x1837.toNatClampNeg).toInt = x1912.toInt + 1 := by rw [Wr.I wH1914]; omega
              have ho1 : ∀ j : Nat, j ≠ x1837.toNatClampNeg → fI H1914 gq j = fI H1833 gq j := fun j hj => Wr.neI wH1914 (Or.inr hj)
              have g1 : GW (fun j => fI H1914 gq j) x1837.toInt bl.toInt := GW.inc (k := x1837.toNatClampNeg) by1838_gw (by omega) ho1 (by omega)
              have ev2 : (fI H1914 gq x1837.toNatClampNeg).toInt = (fI H1833 gq x1837.toNatClampNeg).toInt + 1 := by rw [ev, ex1912]
              have m1 : gm (fun j => fI H1914 gq j) ((x1837.toInt + 1).toNat) < gm (fun j => fI H1833 gq j) (x1837.toInt + 1).toNat := gm_stay (k := x1837.toNatClampNeg) (by omega) ho1 ev2 (by omega)
              have m2 : gm (fun j => fI H1914 gq j) ((x1837.toInt + 2).toNat) < gm (fun j => fI H1833 gq j) (x1837.toInt + 1).toNat := gm_push (k := x1837.toNatClampNeg) (by omega) ho1 ev2 (by omega) (by omega)
              have a1 : AB H1914 gq (x1837.toNatClampNeg + 1) 0 7 := GW.ab (k := x1837.toNatClampNeg) g1 (by omega) (by omega) rfl (by omega) (by omega)
              have hp1_ : (fun j => (fI H1914 gq j).toInt) x1837.toNatClampNeg = (fun j => (fI H1833 gq j).toInt) x1837.toNatClampNeg + 1 := ev2
              have he1_ : ∀ j : Nat, j < x1837.toNatClampNeg → (fun j => (fI H1833 gq j).toInt) j = (fun j => (fI H1914 gq j).toInt) j := fun j hj => (congrArg Int32.toInt (ho1 j (by omega))).symm
              have h0_ : 0 ≤ (fun j => (fI H1833 gq j).toInt) x1837.toNatClampNeg + 1 := by show 0 ≤ (fI _ gq _).toInt + 1; rw [← ex1912]; omega
              have h1_ : (fun j => (fI H1833 gq j).toInt) x1837.toNatClampNeg + 1 < ((bl.toNatClampNeg : Nat) : Int) := by show (fI _ gq _).toInt + 1 < _; rw [← ex1912]; have cb_ := i_cl (x := bl) (by omega); omega
              have hws1_ : ∀ q : Nat, q ≤ x1837.toNatClampNeg → 0 ≤ wsB nfn bfn (pr (fun j => (fI H1914 gq j).toInt) q) := fun q hq => by rw [← pr_c q (fun j hj => he1_ j (by omega))]; exact hws37 q hq
              refine lv_aload_n hx hb dX10_leastWaste_82 rfl (lv_at hl1835 0 rfl) ?_
              refine lv_iload_n hx hb dX10_leastWaste_83 rfl (lv_at hl1835 3 rfl) ?_
              refine lv_iload_n hx hb dX10_leastWaste_84 rfl (lv_at hl1835 1 rfl) ?_
              have gf1933 : ∀ j : Nat, (fun j => (fI H1914 gq j).toInt) j = (fI H1914 gq j).toInt := fun _ => rfl
              have hgv_ : ∀ j : Nat, j ≤ x1837.toNatClampNeg → 0 ≤ (fun j => (fI H1914 gq j).toInt) j ∧ (fun j => (fI H1914 gq j).toInt) j < bl.toInt := fun j hj => by have a_ := g1 j (by omega); have b_ := a1 j (by omega); dsimp only at a_ ⊢; omega
              refine x_V (As := [.int x1837, .int x1]) (rest := []) C (a_X10_canHave_e l K G H1914 (x1837) (x1) (bl) (nt) (fun j => (fI H1914 gq j).toInt) nfn bfn rfn hTH1914 ga0 (by omega) (by omega) ggq m1919 gnq m1921 glq m1922 gkq m1923 m1924 m1925 (by omega) (hgv_) (hy0) (hy1) (hy2) gf1933 f1915 f1916 f1917) yo_X10_canHave wM_X10_461 ⟨⟨by decide, by decide⟩, by decide, by decide⟩ (x_rv C hTH1914 (ci := 10) rfl ga0 rg_112) rfl hl1835.1 rfl (Nat.le_of_ble_eq_true rfl) dX10_leastWaste_85 hSH1914 (AE_sub (fun _ _ => rfl) (by decide) hSH1914.1) (fun vH1934 H1934 locsH1934 pH1934 zH1934 kH1934 hSH1934 => ?_)
              obtain ⟨x1935, hvH1934, bx1935, m1936, hTH1934⟩ := pH1934
              subst hvH1934
              have b1937 : GW (fun j => fI H1934 gq j) (x1837.toInt) (bl.toInt) := GW.congr (fun j => fI_kept (x_lt hTH1914 kH1934 ggq (by decide))) g1
              have b1938 : gm (fun j => fI H1934 gq j) ((x1837.toInt + 1).toNat) < gm (fun j => fI H1833 gq j) (x1837.toInt + 1).toNat := gm_congr (fun j => fI_kept (x_lt hTH1914 kH1934 ggq (by decide))) m1
              have b1939 : gm (fun j => fI H1934 gq j) ((x1837.toInt + 2).toNat) < gm (fun j => fI H1833 gq j) (x1837.toInt + 1).toNat := gm_congr (fun j => fI_kept (x_lt hTH1914 kH1934 ggq (by decide))) m2
              have b1940 : AB H1934 gq (x1837.toNatClampNeg + 1) (0) (7) := AB.kept (fun j => fI_kept (x_lt hTH1914 kH1934 ggq (by decide))) a1
              have f1941 : ∀ j : Nat, nfn j = (fI H1934 nq j).toInt := fun j => (f1915 j).trans (congrArg Int32.toInt (fI_kept (x_lt hTH1914 kH1934 gnq (by decide))).symm)
              have f1942 : ∀ j : Nat, bfn j = (fI H1934 lq j).toInt := fun j => (f1916 j).trans (congrArg Int32.toInt (fI_kept (x_lt hTH1914 kH1934 glq (by decide))).symm)
              have f1943 : ∀ j : Nat, rfn j = (fI H1934 kq j).toInt := fun j => (f1917 j).trans (congrArg Int32.toInt (fI_kept (x_lt hTH1914 kH1934 gkq (by decide))).symm)
              have f1944 : ∀ j : Nat, fI H1934 bq j = fI H1833 bq j := fun j => (fI_kept (x_lt hTH1914 kH1934 gbq (by decide))).trans (f1918 j)
              have f1945 : ∀ j : Nat, (fun j => (fI H1914 gq j).toInt) j = (fI H1934 gq j).toInt := fun j => (gf1933 j).trans (congrArg Int32.toInt (fI_kept (x_lt hTH1914 kH1934 ggq (by decide))).symm)
              have m1946 := (m1919).trans (fR_kept (x_lt hTH1914 kH1934 ga0 (by decide))).symm
              have m1947 := (m1920).trans (fR_kept (x_lt hTH1914 kH1934 ga0 (by decide))).symm
              have m1948 := (m1921).trans (fR_kept (x_lt hTH1914 kH1934 ga0 (by decide))).symm
              have m1949 := (m1922).trans (fR_kept (x_lt hTH1914 kH1934 ga0 (by decide))).symm
              have m1950 := (m1923).trans (fR_kept (x_lt hTH1914 kH1934 ga0 (by decide))).symm
              have m1951 := (m1924).trans (fI_kept (x_lt hTH1914 kH1934 ga0 (by decide))).symm
              have m1952 := (m1925).trans (fI_kept (x_lt hTH1914 kH1934 ga0 (by decide))).symm
              have m1953 := (m1927).trans (fI_kept (x_lt hTH1914 kH1934 ggq (by decide))).symm
              refine W.eq (g2 := F0 m 88 ls1834 [.int x1935]) rfl ?_
              refine lv_if_ne (tgt := 94) hx hb dX10_leastWaste_88 (by decide) (fun c1954 => ?_) (fun c1954 => ?_)
              · have k1955 := i_ne c1954
                have hyes_ : okB nfn bfn rfn x1.toInt (pr (fun j => (fI H1914 gq j).toInt) x1837.toNatClampNeg) ((fun j => (fI H1914 gq j).toInt) x1837.toNatClampNeg).toNat = true := (HD.get m1936).elim (fun z => z.2) (fun z => absurd z.1 (by omega))
                refine lv_iload_n hx hb dX10_leastWaste_94 rfl (lv_at hl1835 3 rfl) ?_
                refine lv_aload_n hx hb dX10_leastWaste_95 rfl (lv_at hl1835 0 rfl) ?_
                refine x_gi C hTH1934 (ci := 10) (k := 62) rfl inX10 (by decide) wF_X10_455 ga0 rg_112 rfl dX10_leastWaste_96 (fun x1956 ex1956 bx1956 => ?_)
                have ux1956 : nt = x1956 := (m1952).trans ex1956.symm
                subst ux1956
                refine lv_iconst (v := 1) hx hb dX10_leastWaste_99 (by decide) ?_
                refine lv_isub hx hb dX10_leastWaste_100 ?_
                refine lv_topi (fun x1957 ex1957 => ?_)
                have tx1957 := i_sub ex1957 (by omega)
                refine lv_icmp_ge (tgt := 111) hx hb dX10_leastWaste_101 (by decide) (fun c1958 => ?_) (fun c1958 => ?_)
                · have k1959 := i_le c1958
                  refine lv_iconst (v := 0) hx hb dX10_leastWaste_111 (by decide) ?_
                  refine lv_istore (lv' := [(4, .int 0), (0, .ref a0), (1, .int x1), (2, .int x1836), (3, .int x1837)]) hx hb dX10_leastWaste_112 hl1835 (by decide) rfl (fun ls1960 hl1961 => ?_)
                  refine lv_iconst (v := 0) hx hb dX10_leastWaste_114 (by decide) ?_
                  refine lv_istore (lv' := [(5, .int 0), (4, .int 0), (0, .ref a0), (1, .int x1), (2, .int x1836), (3, .int x1837)]) hx hb dX10_leastWaste_115 hl1961 (by decide) rfl (fun ls1962 hl1963 => ?_)
                  have cl_x1837 := i_cl (x := x1837) (by omega)
                  have c00_ : (0 : Int32).toNatClampNeg = 0 := rfl
                  have cn_x1837 := i_cl (x := x1837) (by omega)
                  have cn_nt := i_cl (x := nt) (by omega)
                  have eg_ : (fun j => (fI H1934 gq j).toInt) = (fun j => (fI H1914 gq j).toInt) := funext fun j => congrArg Int32.toInt (fI_kept (x_lt hTH1914 kH1934 ggq (by decide)))
                  have eb_ : (fun j => (fI H1934 bq j).toInt) = (fun j => (fI H1833 bq j).toInt) := funext fun j => congrArg Int32.toInt (f1944 j)
                  have hwn_ : 0 ≤ wsB nfn bfn (pr (fun j => (fI H1914 gq j).toInt) nt.toNatClampNeg) := by rw [show nt.toNatClampNeg = x1837.toNatClampNeg + 1 by omega, pr, wsB, pr_len]; have a_ := hws1_ x1837.toNatClampNeg (Nat.le_refl _); have b_ := (ok_nl hyes_).1; rw [pr_len] at b_; dsimp only at b_; omega
                  exact J117 ((8 - (0 : Int32).toInt).toNat + 1)  ls1962 H1934 locsH1934 (0) (0) (lv_sub hl1963 [2, 3, 4, 5, 1, 0] rfl) hTH1934 hSH1934 (by have := i_rng x1837; omega) (by decide) (by decide) m1946 m1947 m1948 m1949 m1950 m1951 m1952 (GW.cast b1937 (by omega)) b1938 (AB.weak b1940 (by omega) (by omega) (by omega)) f1941 f1942 f1943 (by omega) (by omega) (HD.mk ((((HD.get hsp37).1 (by omega)).trans (kB_up h0_ h1_ hp1_ he1_ hyes_ (by omega))).trans (by rw [eg_, eb_]))) (ws_00 n_0 c00_) (fun q hq => by rw [eg_]; exact hws1_ q hq) (by rw [eg_]; exact hwn_)
                · have k1959 := i_nle c1958
                  refine lv_iload_n hx hb dX10_leastWaste_104 rfl (lv_at hl1835 3 rfl) ?_
                  refine lv_iconst (v := 1) hx hb dX10_leastWaste_105 (by decide) ?_
                  refine lv_iadd hx hb dX10_leastWaste_106 ?_
                  refine lv_topi (fun x1964 ex1964 => ?_)
                  have tx1964 := i_add ex1964 (by omega)
                  refine lv_istore_n (lv' := [(3, .int x1964), (0, .ref a0), (1, .int x1), (2, .int x1836)]) hx hb dX10_leastWaste_107 rfl hl1835 (by decide) rfl (fun ls1965 hl1966 => ?_)
                  have g3 : GW (fun j => fI H1934 gq j) (x1837.toInt + 1) bl.toInt := GW.push (k := x1837.toNatClampNeg) b1937 (by omega) (by have := b1940 x1837.toNatClampNeg (by omega); omega) rfl (by omega)
                  refine lv_goto (tgt := 37) hx hb dX10_leastWaste_108 (by decide) ?_
                  have hmm : gm (fun j => fI H1934 gq j) (x1964.toInt + 1).toNat < gm (fun j => fI H1833 gq j) (x1837.toInt + 1).toNat := by
                    have e0 : (x1964.toInt + 1).toNat = (x1837.toInt + 2).toNat := by omega
                    rw [e0]
                    exact b1939
                  have cn_x1837 := i_cl (x := x1837) (by omega)
                  have cn_nt := i_cl (x := nt) (by omega)
                  have cn_x1964 := i_cl (x := x1964) (by omega)
                  have eg_ : (fun j => (fI H1934 gq j).toInt) = (fun j => (fI H1914 gq j).toInt) := funext fun j => congrArg Int32.toInt (fI_kept (x_lt hTH1914 kH1934 ggq (by decide)))
                  have eb_ : (fun j => (fI H1934 bq j).toInt) = (fun j => (fI H1833 bq j).toInt) := funext fun j => congrArg Int32.toInt (f1944 j)
                  have hm1_ : (fun j => (fI H1914 gq j).toInt) x1964.toNatClampNeg = -1 := by have a_ := g1 x1964.toNatClampNeg (by omega); dsimp only at a_; show (fI _ gq _).toInt = -1; omega
                  have hwn_ : 0 ≤ wsB nfn bfn (pr (fun j => (fI H1914 gq j).toInt) (x1837.toNatClampNeg + 1)) := by rw [pr, wsB, pr_len]; have a_ := hws1_ x1837.toNatClampNeg (Nat.le_refl _); have b_ := (ok_nl hyes_).1; rw [pr_len] at b_; dsimp only at b_; omega
                  exact ih37  ls1965 H1934 locsH1934 (x1836) (x1964) (lv_sub hl1966 [1, 2, 3, 0] rfl) hTH1934 hSH1934 (by have := i_rng x1836; omega) (by have := i_rng x1964; omega) m1946 m1947 m1948 m1949 m1950 m1951 m1952 (GW.cast g3 (by omega)) f1941 f1942 f1943 (by omega) (by omega) (HD.mk ⟨fun _ => (((HD.get hsp37).1 (by omega)).trans (kB_down h0_ h1_ hp1_ he1_ hyes_ (by omega) (by omega) hm1_)).trans (by rw [eg_, eb_]), (fun h => by exfalso; omega)⟩) (fun q hq => by rw [eg_]; by_cases e : q = x1837.toNatClampNeg + 1; rw [e]; exact hwn_; exact hws1_ q (by omega))
              · have k1955 := i_eq c1954
                have hno_ : okB nfn bfn rfn x1.toInt (pr (fun j => (fI H1914 gq j).toInt) x1837.toNatClampNeg) ((fun j => (fI H1914 gq j).toInt) x1837.toNatClampNeg).toNat = false := (HD.get m1936).elim (fun z => absurd z.1 (by omega)) (fun z => z.2)
                refine lv_goto (tgt := 37) hx hb dX10_leastWaste_91 (by decide) ?_
                have hmm : gm (fun j => fI H1934 gq j) (x1837.toInt + 1).toNat < gm (fun j => fI H1833 gq j) (x1837.toInt + 1).toNat := by
                  have e0 : (x1837.toInt + 1).toNat = (x1837.toInt + 1).toNat := by omega
                  rw [e0]
                  exact b1938
                have cn_x1837 := i_cl (x := x1837) (by omega)
                have cn_nt := i_cl (x := nt) (by omega)
                have cn_x1837 := i_cl (x := x1837) (by omega)
                have eb_ : (fun j => (fI H1934 bq j).toInt) = (fun j => (fI H1833 bq j).toInt) := funext fun j => congrArg Int32.toInt (f1944 j)
                have eg_ : (fun j => (fI H1934 gq j).toInt) = (fun j => (fI H1914 gq j).toInt) := funext fun j => congrArg Int32.toInt (fI_kept (x_lt hTH1914 kH1934 ggq (by decide)))
                exact ih37  ls1834 H1934 locsH1934 (x1836) (x1837) (lv_sub hl1835 [0, 1, 2, 3] rfl) hTH1934 hSH1934 (by have := i_rng x1836; omega) (by have := i_rng x1837; omega) m1946 m1947 m1948 m1949 m1950 m1951 m1952 (GW.cast b1937 (by omega)) f1941 f1942 f1943 (by omega) (by omega) (HD.mk ⟨fun _ => (((HD.get hsp37).1 (by omega)).trans (kB_no h0_ h1_ hp1_ he1_ hno_)).trans (by rw [eg_, eb_]), (fun h => by exfalso; omega)⟩) (fun q hq => by rw [eg_]; exact hws1_ q hq)
            · have k1932 := i_nlt c1931
              refine lv_aload_n hx hb dX10_leastWaste_68 rfl (lv_at hl1835 0 rfl) ?_
              refine x_gr C hTH1914 (ci := 10) (k := 68) rfl inX10 (by decide) wF_X10_158 ga0 rg_112 rfl dX10_leastWaste_69 (fun q1967 eq1967 gq1967 => ?_)
              have uq1967 : gq = q1967 := (m1919).trans eq1967.symm
              subst uq1967
              refine lv_iload_n hx hb dX10_leastWaste_72 rfl (lv_at hl1835 3 rfl) ?_
              refine lv_iconst (v := (-1)) hx hb dX10_leastWaste_73 (by decide) ?_
              refine x_iast C hTH1914 hSH1914 ggq rg_160 (by omega) (by show _ < ((8 : Nat) : Int); omega) (by decide) (AE_in ggq (by decide)) dX10_leastWaste_74 (fun H1968 locsH1968 hTH1968 hSH1968 wH1968 => ?_)
              have f1969 : ∀ j : Nat, nfn j = (fI H1968 nq j).toInt := fun j => (f1915 j).trans (congrArg Int32.toInt (Wr.neI wH1968 (Or.inl (G_ne gnq ggq (by decide)))).symm)
              have f1970 : ∀ j : Nat, bfn j = (fI H1968 lq j).toInt := fun j => (f1916 j).trans (congrArg Int32.toInt (Wr.neI wH1968 (Or.inl (G_ne glq ggq (by decide)))).symm)
              have f1971 : ∀ j : Nat, rfn j = (fI H1968 kq j).toInt := fun j => (f1917 j).trans (congrArg Int32.toInt (Wr.neI wH1968 (Or.inl (G_ne gkq ggq (by decide)))).symm)
              have f1972 : ∀ j : Nat, fI H1968 bq j = fI H1833 bq j := fun j => (fI_kept (wH1968.off (G_ne gbq ggq (by decide)))).trans (f1918 j)
              have m1973 := m1919.trans (Wr.neR wH1968 (Or.inl (G_ne ga0 ggq (by decide)))).symm
              have m1974 := m1920.trans (Wr.neR wH1968 (Or.inl (G_ne ga0 ggq (by decide)))).symm
              have m1975 := m1921.trans (Wr.neR wH1968 (Or.inl (G_ne ga0 ggq (by decide)))).symm
              have m1976 := m1922.trans (Wr.neR wH1968 (Or.inl (G_ne ga0 ggq (by decide)))).symm
              have m1977 := m1923.trans (Wr.neR wH1968 (Or.inl (G_ne ga0 ggq (by decide)))).symm
              have m1978 := m1924.trans (Wr.neI wH1968 (Or.inl (G_ne ga0 ggq (by decide)))).symm
              have m1979 := m1925.trans (Wr.neI wH1968 (Or.inl (G_ne ga0 ggq (by decide)))).symm
              have m1981 := Wr.I wH1968
              have ho2 : ∀ j : Nat, j ≠ x1837.toNatClampNeg → fI H1968 gq j = fI H1833 gq j := fun j hj => (Wr.neI wH1968 (Or.inr hj)).trans (Wr.neI wH1914 (Or.inr hj))
              have ev3 : (fI H1968 gq x1837.toNatClampNeg).toInt = -1 := by rw [Wr.I wH1968]; rfl
              have ev4 : -1 ≤ (fI H1833 gq x1837.toNatClampNeg).toInt ∧ (fI H1833 gq x1837.toNatClampNeg).toInt ≤ 7 := by rw [← ex1912]; omega
              have g2 : GW (fun j => fI H1968 gq j) (x1837.toInt - 1) bl.toInt := GW.pop (k := x1837.toNatClampNeg) by1838_gw (by omega) ho2 ev3 rfl
              have m3 : gm (fun j => fI H1968 gq j) x1837.toNatClampNeg < gm (fun j => fI H1833 gq j) (x1837.toInt + 1).toNat := gm_pop (k := x1837.toNatClampNeg) (by omega) ho2 ev3 ev4 (by omega)
              refine lv_iload_n hx hb dX10_leastWaste_75 rfl (lv_at hl1835 3 rfl) ?_
              refine lv_iconst (v := 1) hx hb dX10_leastWaste_76 (by decide) ?_
              refine lv_isub hx hb dX10_leastWaste_77 ?_
              refine lv_topi (fun x1982 ex1982 => ?_)
              have tx1982 := i_sub ex1982 (by omega)
              refine lv_istore_n (lv' := [(3, .int x1982), (0, .ref a0), (1, .int x1), (2, .int x1836)]) hx hb dX10_leastWaste_78 rfl hl1835 (by decide) rfl (fun ls1983 hl1984 => ?_)
              refine lv_goto (tgt := 37) hx hb dX10_leastWaste_79 (by decide) ?_
              have hmm : gm (fun j => fI H1968 gq j) (x1982.toInt + 1).toNat < gm (fun j => fI H1833 gq j) (x1837.toInt + 1).toNat := by
                have e0 : (x1982.toInt + 1).toNat = x1837.toNatClampNeg := by omega
                rw [e0]
                exact m3
              have cn_x1837 := i_cl (x := x1837) (by omega)
              have cn_nt := i_cl (x := nt) (by omega)
              have hx_ : ((bl.toNatClampNeg : Nat) : Int) ≤ (fun j => (fI H1833 gq j).toInt) x1837.toNatClampNeg + 1 := by show _ ≤ (fI _ gq _).toInt + 1; rw [← ex1912]; have cb_ := i_cl (x := bl) (by omega); omega
              have eb_ : (fun j => (fI H1968 bq j).toInt) = (fun j => (fI H1833 bq j).toInt) := funext fun j => congrArg Int32.toInt (f1972 j)
              have cq_ : x1982.toNatClampNeg ≤ x1837.toNatClampNeg := cl_le (by omega)
              have hk0_ : x1982.toInt < 0 → kB nfn bfn rfn x1.toInt bl.toNatClampNeg nt.toNatClampNeg (fun j => (fI H1833 gq j).toInt) x1837.toNatClampNeg (x1836.toInt, acL x1836.toInt (fun j => (fI H1833 bq j).toInt) nt.toNatClampNeg) = (x1836.toInt, acL x1836.toInt (fun j => (fI H1833 bq j).toInt) nt.toNatClampNeg) := fun h => by have e0_ : x1837.toNatClampNeg = 0 := (by omega); rw [e0_]; rw [e0_] at hx_; exact kB_done hx_
              have hsp_ : HD ((0 ≤ x1982.toInt → goB nfn bfn rfn x1.toInt bl.toNatClampNeg nt.toNatClampNeg [] (-1, []) = kB nfn bfn rfn x1.toInt bl.toNatClampNeg nt.toNatClampNeg (fun j => (fI H1968 gq j).toInt) x1982.toNatClampNeg (x1836.toInt, acL x1836.toInt (fun j => (fI H1968 bq j).toInt) nt.toNatClampNeg)) ∧ (x1982.toInt < 0 → goB nfn bfn rfn x1.toInt bl.toNatClampNeg nt.toNatClampNeg [] (-1, []) = (x1836.toInt, acL x1836.toInt (fun j => (fI H1968 bq j).toInt) nt.toNatClampNeg))) := HD.mk ⟨fun h => by have cq2_ := i_cl (x := x1982) (by omega); exact (((HD.get hsp37).1 (by omega)).trans (kB_pop (q := x1982.toNatClampNeg) hx_ (by omega) (fun j hj => (congrArg Int32.toInt (ho2 j (by omega))).symm))).trans (by rw [eb_]), fun h => (((HD.get hsp37).1 (by omega)).trans (hk0_ h)).trans (by rw [eb_])⟩
              have hpz_ : x1982.toNatClampNeg ≤ x1837.toNatClampNeg - 1 := by
                by_cases hz : 0 ≤ x1982.toInt
                · have c_ := i_cl (x := x1982) hz
                  omega
                · show x1982.toInt.toNat ≤ _
                  omega
              have hw_ : ∀ q : Nat, q ≤ x1982.toNatClampNeg → 0 ≤ wsB nfn bfn (pr (fun j => (fI H1968 gq j).toInt) q) := fun q hq => by rw [pr_c q (h := (fun j => (fI H1833 gq j).toInt)) (fun j hj => congrArg Int32.toInt (ho2 j (by omega)))]; exact hws37 q (by omega)
              exact ih37  ls1983 H1968 locsH1968 (x1836) (x1982) (lv_sub hl1984 [1, 2, 3, 0] rfl) hTH1968 hSH1968 (by have := i_rng x1836; omega) (by have := i_rng x1982; omega) m1973 m1974 m1975 m1976 m1977 m1978 m1979 (GW.cast g2 (by omega)) f1969 f1970 f1971 (by omega) (by omega) hsp_ hw_
      refine lv_iload hx hb dX10_leastWaste_7 (lv_at hl1828 4 rfl) ?_
      refine lv_bipush (v := 8) hx hb dX10_leastWaste_9 (by decide) ?_
      refine lv_icmp_ge (tgt := 28) hx hb dX10_leastWaste_11 (by decide) (fun c1985 => ?_) (fun c1985 => ?_)
      · have k1986 := i_le c1985
        refine lv_aload_n hx hb dX10_leastWaste_28 rfl (lv_at hl1828 0 rfl) ?_
        refine x_gi C hTH1826 (ci := 10) (k := 62) rfl inX10 (by decide) wF_X10_455 ga0 rg_112 rfl dX10_leastWaste_29 (fun x1987 ex1987 bx1987 => ?_)
        have ux1987 : nt = x1987 := (cy1832_6).trans ex1987.symm
        subst ux1987
        refine lv_if_ne (tgt := 37) hx hb dX10_leastWaste_32 (by decide) (fun c1988 => ?_) (fun c1988 => ?_)
        · have k1989 := i_ne c1988
          have cl9 := i_cl (x := x1831) (by omega)
          have hz_ := by1832_ng 0 (by omega)
          have g0 : GW (fun j => fI H1826 gq j) 0 bl.toInt := GW.init (AB.weak by1832_ng (by omega) (by omega) (by omega)) (by omega)
          have ea_ : (x1829.toInt, acL x1829.toInt (fun j => (fI H1826 bq j).toInt) nt.toNatClampNeg) = (-1, []) := by rw [show x1829.toInt = -1 by omega]; unfold acL; rw [if_pos rfl]
          have cn_ := i_cl (x := nt) (by omega)
          have cp_ : x1830.toNatClampNeg = 0 := by have c_ := i_cl (x := x1830) (by omega); omega
          exact J37 ((gm (fun j => fI H1826 gq j) (x1830.toInt + 1).toNat).toNat + 1)  ls1827 H1826 locsH1826 (x1829) (x1830) (lv_sub hl1828 [0, 1, 2, 3] rfl) hTH1826 hSH1826 (by have := i_rng x1829; omega) (by have := i_rng x1830; omega) cy1832_0 cy1832_1 cy1832_2 cy1832_3 cy1832_4 cy1832_5 cy1832_6 (GW.cast g0 (by omega)) fy1832_nfn fy1832_bfn fy1832_rfn (by omega) (by omega) (HD.mk ⟨fun _ => by rw [ea_, cp_]; exact kB_0 (by show (fI _ gq 0).toInt = -1; omega) (by omega), fun h => by exfalso; omega⟩) (fun q hq => by have q0 : q = 0 := (by omega); rw [q0]; exact Int.le_refl _)
        · have k1989 := i_eq c1988
          refine lv_iconst (v := 0) hx hb dX10_leastWaste_35 (by decide) ?_
          have cn_ := i_cl (x := nt) (by omega)
          have n0_ : nt.toNatClampNeg = 0 := by omega
          exact x_iret C hQ dX10_leastWaste_36 hSH1826 (by decide) (by decide) (⟨0, rfl, HD.mk (go_n0 n0_ (by omega)), hTH1826⟩)
      · have k1986 := i_nle c1985
        refine lv_aload_n hx hb dX10_leastWaste_14 rfl (lv_at hl1828 0 rfl) ?_
        refine x_gr C hTH1826 (ci := 10) (k := 68) rfl inX10 (by decide) wF_X10_158 ga0 rg_112 rfl dX10_leastWaste_15 (fun q1990 eq1990 gq1990 => ?_)
        have uq1990 : gq = q1990 := (cy1832_0).trans eq1990.symm
        subst uq1990
        refine lv_iload hx hb dX10_leastWaste_18 (lv_at hl1828 4 rfl) ?_
        refine lv_iconst (v := (-1)) hx hb dX10_leastWaste_20 (by decide) ?_
        refine x_iast C hTH1826 hSH1826 ggq rg_160 (by omega) (by show _ < ((8 : Nat) : Int); omega) (by decide) (AE_in ggq (by decide)) dX10_leastWaste_21 (fun H1991 locsH1991 hTH1991 hSH1991 wH1991 => ?_)
        have cjH1991 := i_cl (x := x1831) (by omega)
        have b1992 : AB H1991 gq (x1831.toNatClampNeg + 1) (-1) (-1) := (AB.ext wH1991 (by decide) by1832_ng (by omega) rfl)
        have f1993 : ∀ j : Nat, nfn j = (fI H1991 nq j).toInt := fun j => (fy1832_nfn j).trans (congrArg Int32.toInt (Wr.neI wH1991 (Or.inl (G_ne gnq ggq (by decide)))).symm)
        have f1994 : ∀ j : Nat, bfn j = (fI H1991 lq j).toInt := fun j => (fy1832_bfn j).trans (congrArg Int32.toInt (Wr.neI wH1991 (Or.inl (G_ne glq ggq (by decide)))).symm)
        have f1995 : ∀ j : Nat, rfn j = (fI H1991 kq j).toInt := fun j => (fy1832_rfn j).trans (congrArg Int32.toInt (Wr.neI wH1991 (Or.inl (G_ne gkq ggq (by decide)))).symm)
        have m1996 := cy1832_0.trans (Wr.neR wH1991 (Or.inl (G_ne ga0 ggq (by decide)))).symm
        have m1997 := cy1832_1.trans (Wr.neR wH1991 (Or.inl (G_ne ga0 ggq (by decide)))).symm
        have m1998 := cy1832_2.trans (Wr.neR wH1991 (Or.inl (G_ne ga0 ggq (by decide)))).symm
        have m1999 := cy1832_3.trans (Wr.neR wH1991 (Or.inl (G_ne ga0 ggq (by decide)))).symm
        have m2000 := cy1832_4.trans (Wr.neR wH1991 (Or.inl (G_ne ga0 ggq (by decide)))).symm
        have m2001 := cy1832_5.trans (Wr.neI wH1991 (Or.inl (G_ne ga0 ggq (by decide)))).symm
        have m2002 := cy1832_6.trans (Wr.neI wH1991 (Or.inl (G_ne ga0 ggq (by decide)))).symm
        have m2003 := Wr.I wH1991
        obtain ⟨x2004, ex2004⟩ : ∃ y : Int32, y = x1831 + 1 := ⟨_, rfl⟩
        have tx2004 := i_add ex2004 (by omega)
        refine lv_iinc (v := x2004) (lv' := [(4, .int x2004), (0, .ref a0), (1, .int x1), (2, .int x1829), (3, .int x1830)]) hx hb dX10_leastWaste_22 hl1828 (k := 4) rfl (by rw [ex2004]; rfl) (by decide) rfl (fun ls2005 hl2006 => ?_)
        refine lv_goto (tgt := 7) hx hb dX10_leastWaste_25 (by decide) ?_
        have cl_x1831 := i_cl (x := x1831) (by omega)
        have cl_x2004 := i_cl (x := x2004) (by omega)
        exact ih7 ls2005 H1991 locsH1991 (x1829) (x1830) (x2004) (lv_sub hl2006 [1, 2, 3, 4, 0] rfl) hTH1991 hSH1991 (by have := i_rng x1829; omega) (by have := i_rng x1830; omega) (by have := i_rng x2004; omega) m1996 m1997 m1998 m1999 m2000 m2001 m2002 (AB.weak b1992 (by omega) (by omega) (by omega)) f1993 f1994 f1995 (by omega)
  refine lv_iconst (v := (-1)) hx hb dX10_leastWaste_0 (by decide) ?_
  refine lv_istore_n (lv' := [(2, .int (-1)), (0, .ref a0), (1, .int x1)]) hx hb dX10_leastWaste_1 rfl hl (by decide) rfl (fun ls2007 hl2008 => ?_)
  refine lv_iconst (v := 0) hx hb dX10_leastWaste_2 (by decide) ?_
  refine lv_istore_n (lv' := [(3, .int 0), (2, .int (-1)), (0, .ref a0), (1, .int x1)]) hx hb dX10_leastWaste_3 rfl hl2008 (by decide) rfl (fun ls2009 hl2010 => ?_)
  refine lv_iconst (v := 0) hx hb dX10_leastWaste_4 (by decide) ?_
  refine lv_istore (lv' := [(4, .int 0), (3, .int 0), (2, .int (-1)), (0, .ref a0), (1, .int x1)]) hx hb dX10_leastWaste_5 hl2010 (by decide) rfl (fun ls2011 hl2012 => ?_)
  have cl_0 := i_cl (x := (0 : Int32)) (by omega)
  exact J7 ((8 - (0 : Int32).toInt).toNat + 1) ls2011 s.heap [] ((-1)) (0) (0) (lv_sub hl2012 [3, 4, 2, 1, 0] rfl) hT hS (by decide) (by decide) (by decide) egq ebq enq elq ekq ebl ent (AB.weak (AB.nil (H := s.heap) (q := gq) (lo := -1) (hi := -1)) (by omega) (by omega) (by omega)) f0_nfn f0_bfn f0_rfn (by omega)
