/-! ===== what is read depends on the tape's bytes alone ===== -/
theorem inL_c {L : Nat} {F : Int → Bool} {b c : Nat → Int} (h : ∀ j : Nat, j < L → b j = c j) : inL L F b = inL L F c := funext fun j => by
  unfold inL
  by_cases hj : j < L
  · rw [h j hj]
  · rw [decide_eq_false hj]; rfl
theorem scn_L {L : Nat} {F : Int → Bool} {b : Nat → Int} : ∀ (f p : Nat), p ≤ L → scn (inL L F b) f p ≤ L
  | 0, _, h => h
  | f + 1, p, h => by
    show (if inL L F b p = true then scn (inL L F b) f (p + 1) else p) ≤ L
    by_cases e : inL L F b p = true
    · rw [if_pos e]
      have hp : p < L := by
        by_cases z : p < L
        · exact z
        · rw [inL_o (by omega)] at e; cases e
      exact scn_L f (p + 1) hp
    · rw [if_neg e]; exact h
theorem skB_c {b c : Nat → Int} {L p : Nat} (h : ∀ j : Nat, j < L → b j = c j) : skB b L p = skB c L p := by unfold skB; rw [inL_c h]
theorem enL_c {b c : Nat → Int} {L p : Nat} (h : ∀ j : Nat, j < L → b j = c j) : enL b L p = enL c L p := by unfold enL; rw [inL_c h]
theorem enD_c {b c : Nat → Int} {L p : Nat} (h : ∀ j : Nat, j < L → b j = c j) : enD b L p = enD c L p := by unfold enD; rw [inL_c h]
theorem wMt_c {b c : Nat → Int} {L f t : Nat} (h : ∀ j : Nat, j < L → b j = c j) (ht : t ≤ L) : wMt b f t = wMt c f t := funext fun w => funext fun k => by
  unfold wMt
  by_cases e : f + k < t
  · rw [h (f + k) (by omega)]
  · rw [if_neg e, if_neg e]
theorem wFd_c {b c : Nat → Int} {f t : Nat} (h : wMt b f t = wMt c f t) : ∀ k w : Nat, wFd b f t k w = wFd c f t k w
  | 0, _ => rfl
  | k + 1, w => by
    have e : wEq b f t w = wEq c f t w := by unfold wEq; rw [h]
    show (if wEq b f t w = true then _ else wFd b f t k (w + 1)) = (if wEq c f t w = true then _ else wFd c f t k (w + 1))
    rw [e, wFd_c h k (w + 1)]
theorem wNo_c {b c : Nat → Int} {L f t : Nat} (h : ∀ j : Nat, j < L → b j = c j) (ht : t ≤ L) : wNo b f t = wNo c f t := by
  unfold wNo
  rw [wFd_c (wMt_c h ht)]
theorem nmb_c {b c : Nat → Int} {L : Nat} (h : ∀ j : Nat, j < L → b j = c j) : ∀ (k p : Nat) (a : Int), p + k ≤ L → nmb b k p a = nmb c k p a
  | 0, _, _, _ => rfl
  | k + 1, p, a, hp => by
    show nmb b k (p + 1) (a * 10 + b p - 48) = nmb c k (p + 1) (a * 10 + c p - 48)
    rw [h p (by omega), nmb_c h k (p + 1) _ (by omega)]
theorem tkK_c {b c : Nat → Int} {L s : Nat} (h : ∀ j : Nat, j < L → b j = c j) : tkK b L s = tkK c L s := by
  unfold tkK
  by_cases e : L ≤ s
  · rw [if_pos e, if_pos e]
  · rw [if_neg e, if_neg e, h s (by omega), enL_c h, enD_c h, wNo_c h (t := enL c L (s + 1)) (scn_L _ _ (by omega))]
theorem tkV_c {b c : Nat → Int} {L s : Nat} (h : ∀ j : Nat, j < L → b j = c j) : tkV b L s = tkV c L s := by
  unfold tkV
  by_cases e : L ≤ s
  · rw [if_pos e, if_pos e]
  · have hd : enD c L (s + 1) ≤ L := scn_L _ _ (by omega)
    rw [if_neg e, if_neg e, h s (by omega), enD_c h, nmb_c h _ s 0 (by omega)]
theorem tkN_c {b c : Nat → Int} {L s : Nat} (h : ∀ j : Nat, j < L → b j = c j) : tkN b L s = tkN c L s := by
  unfold tkN
  by_cases e : L ≤ s
  · rw [if_pos e, if_pos e]
  · rw [if_neg e, if_neg e, h s (by omega), enL_c h, enD_c h]
theorem pS_c {b c : Nat → Int} {L : Nat} (h : ∀ j : Nat, j < L → b j = c j) : ∀ i : Nat, pS b L i = pS c L i
  | 0 => rfl
  | i + 1 => by
    show tkN b L (skB b L (pS b L i)) = tkN c L (skB c L (pS c L i))
    rw [pS_c h i, skB_c h, tkN_c h]
theorem kK_c {b c : Nat → Int} {L : Nat} (h : ∀ j : Nat, j < L → b j = c j) : kK b L = kK c L := funext fun i => by
  show tkK b L (skB b L (pS b L i)) = tkK c L (skB c L (pS c L i))
  rw [pS_c h, skB_c h, tkK_c h]
theorem vV_c {b c : Nat → Int} {L : Nat} (h : ∀ j : Nat, j < L → b j = c j) : vV b L = vV c L := funext fun i => by
  show tkV b L (skB b L (pS b L i)) = tkV c L (skB c L (pS c L i))
  rw [pS_c h, skB_c h, tkV_c h]
theorem RT.eq {o : Option Nat} {r q : Int32} (h : RT o r) (g : RT o q) : r.toInt = q.toInt := by
  rcases h with ⟨e, h⟩ | ⟨n, e, h⟩
  · rcases g with ⟨_, g⟩ | ⟨m, f, _⟩
    · omega
    · rw [e] at f; cases f
  · rcases g with ⟨f, _⟩ | ⟨m, f, g⟩
    · rw [e] at f; cases f
    · rw [e] at f; cases f; omega
/-- both sides answer alike -/
theorem TXA.eq {b c : Nat → Int} {L M : Nat} {x1 x2 r q : Int32} (h : TXA b L x1 x2 r) (g : TXA c M x1 x2 q) (e : L = M) (hb : ∀ j : Nat, j < L → b j = c j) : r.toInt = q.toInt := by
  subst e
  rcases h with ⟨h1, h⟩ | ⟨h1, h2, h⟩
  · rcases g with ⟨_, g⟩ | ⟨g1, g2, _⟩
    · rw [kK_c hb, vV_c hb] at h; exact RT.eq h g
    · omega
  · rcases g with ⟨g1, _⟩ | ⟨_, _, g⟩
    · omega
    · omega
/-! ===== four bytes more ===== -/
def shK (k : Nat) : Int32 := if k = 0 then 24 else if k = 1 then 16 else if k = 2 then 8 else 0
def bC (x s : Int32) : Int32 := (x.toUInt32 >>> (s.toUInt32 &&& Int32.toUInt32 31)).toInt32 &&& 255
def byB (x : Int32) (k : Nat) : Int32 := bC x (shK k)
theorem bCR1 {x : BitVec 32} {n : Nat} (hn : n ≤ 24) : (x >>> n) &&& 255#32 = (x.sshiftRight n) &&& 255#32 := by
  refine BitVec.eq_of_getLsbD_eq fun i hi => ?_
  rw [BitVec.getLsbD_and, BitVec.getLsbD_and]
  by_cases h : i < 8
  · rw [BitVec.getLsbD_ushiftRight, BitVec.getLsbD_sshiftRight, if_pos (by omega)]
    rw [show decide (32 ≤ i) = false from decide_eq_false (by omega)]
    rfl
  · have e : (255#32).getLsbD i = false := by
      have : ∀ i : Fin 32, 8 ≤ i.val → (255#32).getLsbD i.val = false := by decide
      exact this ⟨i, hi⟩ (by show 8 ≤ i; omega)
    rw [e, Bool.and_false, Bool.and_false]
theorem bCR {x s : Int32} (h : s = 24 ∨ s = 16 ∨ s = 8 ∨ s = 0) : (x >>> (s &&& 31)) &&& 255 = bC x s := by
  refine Int32.toBitVec_inj.mp ?_
  rcases h with rfl | rfl | rfl | rfl
  · exact (bCR1 (x := x.toBitVec) (n := 24) (by decide)).symm
  · exact (bCR1 (x := x.toBitVec) (n := 16) (by decide)).symm
  · exact (bCR1 (x := x.toBitVec) (n := 8) (by decide)).symm
  · exact (bCR1 (x := x.toBitVec) (n := 0) (by decide)).symm
theorem sh_K {s : Int32} {k : Nat} (hs : 0 ≤ s.toInt) (h : 8 * (k : Int) = 24 - s.toInt) : s = shK k := by
  have hk : k = 0 ∨ k = 1 ∨ k = 2 ∨ k = 3 := by omega
  have hc : ∀ c : Int32, s.toInt = c.toInt → s = c := fun c e => Int32.toInt_inj.mp e
  rcases hk with rfl | rfl | rfl | rfl
  · exact hc 24 (by show s.toInt = 24; omega)
  · exact hc 16 (by show s.toInt = 16; omega)
  · exact hc 8 (by show s.toInt = 8; omega)
  · exact hc 0 (by show s.toInt = 0; omega)
theorem shK_c (k : Nat) : shK k = 24 ∨ shK k = 16 ∨ shK k = 8 ∨ shK k = 0 := by
  unfold shK
  split
  · exact Or.inl rfl
  · split
    · exact Or.inr (Or.inl rfl)
    · split
      · exact Or.inr (Or.inr (Or.inl rfl))
      · exact Or.inr (Or.inr (Or.inr rfl))
/-- the bytes of x from p on, up to q -/
def adk (x : Int32) (p q : Nat) (f : Nat → Int32) (j : Nat) : Int32 := if p ≤ j ∧ j < q then byB x (j - p) else f j
theorem adk_0 {x : Int32} {p : Nat} {f : Nat → Int32} (j : Nat) : f j = adk x p p f j := (if_neg (by omega)).symm
theorem adk_step {f g0 g1 : Nat → Int32} {x v : Int32} {p q q' r : Nat} (h : ∀ j : Nat, g0 j = adk x p q f j) (hq : g1 q' = v) (hn : ∀ j : Nat, j ≠ q' → g1 j = g0 j) (e : q' = q) (hpq : p ≤ q) (hv : v = byB x (q - p)) (hr : r = q + 1) : ∀ j : Nat, g1 j = adk x p r f j := by
  subst e; subst hr
  intro j
  unfold adk
  by_cases c : j = q'
  · subst c
    rw [if_pos (by omega), hq, hv]
  · rw [hn j c, h j]
    unfold adk
    by_cases d : p ≤ j ∧ j < q'
    · rw [if_pos d, if_pos (by omega)]
    · rw [if_neg d, if_neg (by omega)]
theorem byC {x s z v : Int32} {k : Nat} (ez : (x.toUInt32 >>> (s.toUInt32 &&& Int32.toUInt32 31)).toInt32 = z) (ev : v = z &&& 255) (hs : 0 ≤ s.toInt) (h : 8 * (k : Int) = 24 - s.toInt) : v = byB x k := by
  rw [ev, ← ez, sh_K hs h]; rfl
theorem byR {x s z v : Int32} {k : Nat} (ez : z = x >>> (s &&& 31)) (ev : v = z &&& 255) (hs : 0 ≤ s.toInt) (h : 8 * (k : Int) = 24 - s.toInt) : v = byB x k := by
  rw [ev, ez, sh_K hs h]; exact bCR (shK_c k)
theorem byB_0 {x : Int32} {k : Nat} : 0 ≤ (byB x k).toInt := (i_and255 (z := byB x k) rfl).1
/-- the five ints of a feeding -/
def fdA (x1 x2 x3 x4 x5 : Int32) (p : Nat) (f : Nat → Int32) : Nat → Int32 := adk x5 (p + 16) (p + 20) (adk x4 (p + 12) (p + 16) (adk x3 (p + 8) (p + 12) (adk x2 (p + 4) (p + 8) (adk x1 p (p + 4) f))))
theorem adk_c {x : Int32} {p q p' q' : Nat} {f g : Nat → Int32} (h : ∀ j : Nat, f j = g j) (e : p = p') (e2 : q = q') (j : Nat) : adk x p q f j = adk x p' q' g j := by subst e; subst e2; unfold adk; rw [h j]
/-- both tapes hold the same bytes -/
def TBR (f g : Nat → Int32) (L : Nat) : Prop := ∀ j : Nat, j < L → f j = g j ∧ 0 ≤ (g j).toInt
theorem TBR.ad4 {f g : Nat → Int32} {L q : Nat} {x : Int32} (h : TBR f g L) : TBR (adk x L q f) (adk x L q g) q := by
  intro j hj
  unfold adk
  by_cases d : L ≤ j ∧ j < q
  · rw [if_pos d, if_pos d]; exact ⟨rfl, byB_0⟩
  · rw [if_neg d, if_neg d]; exact h j (by omega)
theorem TBR.fd {f g : Nat → Int32} {L : Nat} {x1 x2 x3 x4 x5 : Int32} (h : TBR f g L) : TBR (fdA x1 x2 x3 x4 x5 L f) (fdA x1 x2 x3 x4 x5 L g) (L + 20) := TBR.ad4 (TBR.ad4 (TBR.ad4 (TBR.ad4 (TBR.ad4 h))))
theorem TBR.of {f g f1 g1 : Nat → Int32} {L M : Nat} (h : TBR f g L) (hf : ∀ j : Nat, f1 j = f j) (hg : ∀ j : Nat, g1 j = g j) (hM : M ≤ L) : TBR f1 g1 M := fun j hj => by
  rw [hf j, hg j]; exact h j (by omega)
theorem TBR.nil {f g : Nat → Int32} : TBR f g 0 := fun j hj => by omega
/-- a feeding, refused or not -/
def fdX (x1 x2 x3 x4 x5 t : Int32) (f : Nat → Int32) (j : Nat) : Int32 := if t.toInt ≤ 480 then fdA x1 x2 x3 x4 x5 t.toNatClampNeg f j else f j
theorem TBR.fx {f g : Nat → Int32} {x1 x2 x3 x4 x5 t u : Int32} {M : Nat} (h : TBR f g u.toNatClampNeg) (e : t.toInt = u.toInt) (hM : (u.toInt ≤ 480 ∧ M ≤ u.toNatClampNeg + 20) ∨ (480 < u.toInt ∧ M ≤ u.toNatClampNeg)) : TBR (fdX x1 x2 x3 x4 x5 t f) (fdX x1 x2 x3 x4 x5 u g) M := by
  have e : t = u := Int32.toInt_inj.mp e
  subst e
  intro j hj
  unfold fdX
  rcases hM with ⟨a, b⟩ | ⟨a, b⟩
  · rw [if_pos a, if_pos a]; exact h.fd j (by omega)
  · rw [if_neg (by omega), if_neg (by omega)]; exact h j (by omega)
theorem fdX_c {x1 x2 x3 x4 x5 t : Int32} {f g : Nat → Int32} (h : ∀ j : Nat, f j = g j) (j : Nat) : fdX x1 x2 x3 x4 x5 t f j = fdX x1 x2 x3 x4 x5 t g j := by rw [show f = g from funext h]
set_option maxHeartbeats 4000000 in
set_option maxRecDepth 100000 in
theorem a_X9_addBytes_b (l : Launch) (K : KE) (G : Nat → Option Nat) (H : Heap) {a0 : Nat} (x1 : Int32) {wq : Nat} {tq : Nat} (tp : Int32) {kv : Value} (hT : TY K G H) (ga0 : G a0 = some 68) (gwq : G wq = some 0) (ewq : @Eq Ad wq (fR H a0 (K.1.2 9 0))) (gtq : G tq = some 108) (etq : @Eq Ad tq (fR H a0 (K.1.2 9 2))) (etp : tp = fI H a0 (K.1.2 9 3)) (hp0 : tp.toInt ≤ 496) (hkv : fV H a0 (K.1.2 9 1) = kv) : MX l K yX9_addBytes cX9_addBytes 3 none 0 0 0 0 [.ref a0, .int x1] H (AE G [68, 108] H.size) (fun v H1 => ∃ (t0 : Int32), v = none ∧ t0 = fI H1 a0 (K.1.2 9 3) ∧ (t0.toInt = tp.toInt + 4) ∧ @Eq Ad wq (fR H1 a0 (K.1.2 9 0)) ∧ @Eq Ad tq (fR H1 a0 (K.1.2 9 2)) ∧ (∀ j : Nat, fI H1 tq j = adk x1 tp.toNatClampNeg (tp.toNatClampNeg + 4) (fun j => fI H tq j) j) ∧ fV H1 a0 (K.1.2 9 1) = kv ∧ TY K G H1) := by
  refine MX.of (by decide +kernel) (Nat.le_of_ble_eq_true rfl) ?_
  intro p e s m below meth c ls Q C hH hl hQ
  subst hH
  have C : CX p K s m _ meth c RX9 cX9_addBytes 3 none "addBytes" := C
  obtain ⟨hx, hb, hml, hown, hts, hKT, hr, hlocks, hnm⟩ := id C
  have hl : lv_has ls 3 [(0, .ref a0), (1, .int x1)] := hl
  have hS : va_S (AE G [68, 108] s.heap.size) s.heap s.heap [] := va_S.rf
  have n_m8 : ((-8) : Int32).toInt = -8 := rfl
  have n_0 : (0 : Int32).toInt = 0 := rfl
  have n_1 : (1 : Int32).toInt = 1 := rfl
  have n_24 : (24 : Int32).toInt = 24 := rfl
  have n_255 : (255 : Int32).toInt = 255 := rfl
  have n_500 : (500 : Int32).toInt = 500 := rfl
  have btp := ty_fi (x := tp) (k := 3) etp hT ga0 rg_68 rfl
  have J3 : ∀ (nf : Nat)  (ls342 : Array Slot) (H341 : Heap) (locsH341 : List Loc) (x344 : Int32) (x345 : Int32), lv_has ls342 3 [(0, .ref a0), (1, .int x1), (2, .int x344)] → TY K G H341 → va_S (AE G [68, 108] s.heap.size) s.heap H341 locsH341 → ((-8) ≤ x344.toInt ∧ x344.toInt ≤ 24) → (0 ≤ x345.toInt ∧ x345.toInt ≤ 500) → (x345 = fI H341 a0 (K.1.2 9 3)) → (@Eq Ad wq (fR H341 a0 (K.1.2 9 0))) → (@Eq Ad tq (fR H341 a0 (K.1.2 9 2))) → (fV H341 a0 (K.1.2 9 1) = kv) → (x344.toInt - (-8) < (nf : Int)) → (8 * (x345.toInt - tp.toInt) = 24 - x344.toInt) → (∀ j : Nat, fI H341 tq j = adk x1 tp.toNatClampNeg x345.toNatClampNeg (fun j => fI s.heap tq j) j) → W p l e ({ frames := 0, cells := 0, slots := 0, locals := 0 } : Room) s m (([.ref a0, .int x1] : List Value).toArray) below meth c H341 locsH341 0 0 Q (F0 m 3 ls342 []) := by
    intro nf
    induction nf with
    | zero =>
      intro  ls342 H341 locsH341 x344 x345 hl343 hTH341 hSH341 bx344 bx345 ex345 cy346_0 cy346_1 cy346_2 hm3 iv3 hby3
      exfalso
      omega
    | succ nf ih3 =>
      intro  ls342 H341 locsH341 x344 x345 hl343 hTH341 hSH341 bx344 bx345 ex345 cy346_0 cy346_1 cy346_2 hm3 iv3 hby3
      refine lv_iload_n hx hb dX9_addBytes_3 rfl (lv_at hl343 2 rfl) ?_
      refine lv_if_lt (tgt := 49) hx hb dX9_addBytes_4 (by decide) (fun c347 => ?_) (fun c347 => ?_)
      · have k348 := i_lt c347
        have cn_x345 := i_cl (x := x345) bx345.1
        have cn_tp := i_cl (x := tp) (by omega)
        exact x_vret C hQ dX9_addBytes_49 hSH341 (by decide) (by decide) (⟨x345, rfl, ex345, by omega, cy346_0, cy346_1, (fun j => by have z := hby3 j; rw [show x345.toNatClampNeg = tp.toNatClampNeg + 4 by omega] at z; exact z), cy346_2, hTH341⟩)
      · have k348 := i_nlt c347
        refine lv_aload_n hx hb dX9_addBytes_7 rfl (lv_at hl343 0 rfl) ?_
        refine x_gi C hTH341 (ci := 9) (k := 3) rfl inX9 (by decide) wF_X9_105 ga0 rg_68 rfl dX9_addBytes_8 (fun x349 ex349 bx349 => ?_)
        have ux349 : x345 = x349 := (ex345).trans ex349.symm
        subst ux349
        refine lv_sipush (v := 500) hx hb dX9_addBytes_11 (by decide) ?_
        refine lv_icmp_ge (tgt := 49) hx hb dX9_addBytes_14 (by decide) (fun c350 => ?_) (fun c350 => ?_)
        · have k351 := i_le c350
          have cn_x345 := i_cl (x := x345) bx345.1
          have cn_tp := i_cl (x := tp) (by omega)
          exact x_vret C hQ dX9_addBytes_49 hSH341 (by decide) (by decide) (⟨x345, rfl, ex345, by omega, cy346_0, cy346_1, (fun j => by have z := hby3 j; rw [show x345.toNatClampNeg = tp.toNatClampNeg + 4 by omega] at z; exact z), cy346_2, hTH341⟩)
        · have k351 := i_nle c350
          refine lv_aload_n hx hb dX9_addBytes_17 rfl (lv_at hl343 0 rfl) ?_
          refine x_gr C hTH341 (ci := 9) (k := 2) rfl inX9 (by decide) wF_X9_16 ga0 rg_68 rfl dX9_addBytes_18 (fun q352 eq352 gq352 => ?_)
          have uq352 : tq = q352 := (cy346_1).trans eq352.symm
          subst uq352
          refine lv_aload_n hx hb dX9_addBytes_21 rfl (lv_at hl343 0 rfl) ?_
          refine x_gi C hTH341 (ci := 9) (k := 3) rfl inX9 (by decide) wF_X9_105 ga0 rg_68 rfl dX9_addBytes_22 (fun x353 ex353 bx353 => ?_)
          have ux353 : x345 = x353 := (ex345).trans ex353.symm
          subst ux353
          refine lv_iload_n hx hb dX9_addBytes_25 rfl (lv_at hl343 1 rfl) ?_
          refine lv_iload_n hx hb dX9_addBytes_26 rfl (lv_at hl343 2 rfl) ?_
          obtain ⟨x354, ex354⟩ : ∃ z : Int32, ((x1 : Int32).toUInt32 >>> ((x344 : Int32).toUInt32 &&& Int32.toUInt32 31)).toInt32 = z := ⟨_, rfl⟩
          refine lv_iushr (v := x354) hx hb dX9_addBytes_27 ex354 ?_
          refine lv_sipush (v := 255) hx hb dX9_addBytes_28 (by decide) ?_
          refine lv_iand hx hb dX9_addBytes_31 ?_
          refine lv_topi (fun x355 ex355 => ?_)
          have tx355 := i_and255 ex355
          refine x_iast C hTH341 hSH341 gtq rg_108 bx345.1 (by show _ < ((500 : Nat) : Int); omega) (i_rng x355) (AE_in gtq (by decide)) dX9_addBytes_32 (fun H356 locsH356 hTH356 hSH356 wH356 => ?_)
          have m357 := ex345.trans (Wr.neI wH356 (Or.inl (G_ne ga0 gtq (by decide)))).symm
          have m358 := cy346_0.trans (Wr.neR wH356 (Or.inl (G_ne ga0 gtq (by decide)))).symm
          have m359 := cy346_1.trans (Wr.neR wH356 (Or.inl (G_ne ga0 gtq (by decide)))).symm
          have m360 := (Wr.neV wH356 (Or.inl (G_ne ga0 gtq (by decide)))).trans cy346_2
          have m361 := Wr.I wH356
          have m361 := m361.symm
          refine lv_aload_n hx hb dX9_addBytes_33 rfl (lv_at hl343 0 rfl) ?_
          refine lv_dup hx hb dX9_addBytes_34 rfl ?_
          refine x_gi C hTH356 (ci := 9) (k := 3) rfl inX9 (by decide) wF_X9_105 ga0 rg_68 rfl dX9_addBytes_35 (fun x362 ex362 bx362 => ?_)
          have ux362 : x345 = x362 := (m357).trans ex362.symm
          subst ux362
          refine lv_iconst (v := 1) hx hb dX9_addBytes_38 (by decide) ?_
          refine lv_iadd hx hb dX9_addBytes_39 ?_
          refine lv_topi (fun x363 ex363 => ?_)
          have tx363 := i_add ex363 (by omega)
          refine x_put C hTH356 hSH356 (ci := 9) (k := 3) (v := .int x363) (ty0 := tyX9) rfl inX9 tyX9_ok nmX9 (by decide) rfl wF_X9_105 ga0 rg_68 rfl rfl (okI (by omega) (by omega)) rfl rfl (AE_in ga0 (by decide)) dX9_addBytes_40 (fun H364 locsH364 hTH364 hSH364 wH364 => ?_)
          have m366 := m358.trans (Wr.neR wH364 (Or.inr (x_apart hKT hts inX9 tyX9 tyX9_ok nmX9 rfl 0 3 (by decide) (by decide) (by decide)))).symm
          have m367 := m359.trans (Wr.neR wH364 (Or.inr (x_apart hKT hts inX9 tyX9 tyX9_ok nmX9 rfl 2 3 (by decide) (by decide) (by decide)))).symm
          have m368 := (Wr.neV wH364 (Or.inr (x_apart hKT hts inX9 tyX9 tyX9_ok nmX9 rfl 1 3 (by decide) (by decide) (by decide)))).trans m360
          have m369 := m361.trans (Wr.neI wH364 (Or.inl (G_ne gtq ga0 (by decide)))).symm
          have m370 := Wr.I wH364
          have m370 := m370.symm
          obtain ⟨x371, ex371⟩ : ∃ y : Int32, y = x344 + (-8) := ⟨_, rfl⟩
          have tx371 := i_add ex371 (by omega)
          refine lv_iinc (v := x371) (lv' := [(2, .int x371), (0, .ref a0), (1, .int x1)]) hx hb dX9_addBytes_43 hl343 (k := 2) rfl (by rw [ex371]; rfl) (by decide) rfl (fun ls372 hl373 => ?_)
          refine lv_goto (tgt := 3) hx hb dX9_addBytes_46 (by decide) ?_
          have cn_x345 := i_cl (x := x345) bx345.1
          have cn_tp := i_cl (x := tp) (by omega)
          have cn_x363 := i_cl (x := x363) (by omega)
          exact ih3  ls372 H364 locsH364 (x371) (x363) (lv_sub hl373 [1, 2, 0] rfl) hTH364 hSH364 (by have := i_rng x371; omega) (by have := i_rng x363; omega) m370 m366 m367 m368 (by omega) (by omega) (fun j => (Wr.neI wH364 (Or.inl (G_ne gtq ga0 (by decide)))).trans (adk_step hby3 (Wr.I wH356) (fun j hj => Wr.neI wH356 (Or.inr hj)) rfl (by omega) (byC ex354 ex355 (by omega) (by omega)) (by omega) j))
  refine lv_bipush (v := 24) hx hb dX9_addBytes_0 (by decide) ?_
  refine lv_istore_n (lv' := [(2, .int 24), (0, .ref a0), (1, .int x1)]) hx hb dX9_addBytes_2 rfl hl (by decide) rfl (fun ls374 hl375 => ?_)
  exact J3 (((24 : Int32).toInt - (-8)).toNat + 1)  ls374 s.heap [] (24) (tp) (lv_sub hl375 [1, 2, 0] rfl) hT hS (by decide) (by have := i_rng tp; omega) etp ewq etq hkv (by omega) (by omega) (fun j => adk_0 j)

set_option maxHeartbeats 4000000 in
set_option maxRecDepth 100000 in
theorem a_X10_puts_b (l : Launch) (K : KE) (G : Nat → Option Nat) (H : Heap) {a0 : Nat} (x1 : Int32) {tq : Nat} (tp : Int32) (hT : TY K G H) (ga0 : G a0 = some 112) (gtq : G tq = some 126) (etq : @Eq Ad tq (fR H a0 (K.1.2 10 17))) (etp : tp = fI H a0 (K.1.2 10 18)) (hg_CG : CG (avw K H a0)) (hg_TU : TU (avw K H a0) (svw K H a0)) (hg_WD : WD (avw K H a0)) (hg_IM : IM (avw K H a0)) (hp0 : tp.toInt ≤ 496) : MX l K yX10_puts cX10_puts 3 none 0 0 0 0 [.ref a0, .int x1] H (AE G [112, 126] H.size) (fun v H1 => ∃ (t0 : Int32), v = none ∧ t0 = fI H1 a0 (K.1.2 10 18) ∧ (t0.toInt = tp.toInt + 4) ∧ @Eq Ad tq (fR H1 a0 (K.1.2 10 17)) ∧ (CG (avw K H1 a0)) ∧ (TU (avw K H1 a0) (svw K H1 a0)) ∧ (WD (avw K H1 a0)) ∧ (IM (avw K H1 a0)) ∧ MF K H H1 a0 [18] ∧ (∀ j : Nat, fI H1 tq j = adk x1 tp.toNatClampNeg (tp.toNatClampNeg + 4) (fun j => fI H tq j) j) ∧ TY K G H1) := by
  refine MX.of (by decide +kernel) (Nat.le_of_ble_eq_true rfl) ?_
  intro p e s m below meth c ls Q C hH hl hQ
  subst hH
  have C : CX p K s m _ meth c RX10 cX10_puts 3 none "puts" := C
  obtain ⟨hx, hb, hml, hown, hts, hKT, hr, hlocks, hnm⟩ := id C
  have hl : lv_has ls 3 [(0, .ref a0), (1, .int x1)] := hl
  have hS : va_S (AE G [112, 126] s.heap.size) s.heap s.heap [] := va_S.rf
  have n_m8 : ((-8) : Int32).toInt = -8 := rfl
  have n_0 : (0 : Int32).toInt = 0 := rfl
  have n_1 : (1 : Int32).toInt = 1 := rfl
  have n_24 : (24 : Int32).toInt = 24 := rfl
  have n_255 : (255 : Int32).toInt = 255 := rfl
  have btp := ty_fi (x := tp) (k := 18) etp hT ga0 rg_112 rfl
  have hap : ∀ x y, x < 74 → y < 74 → x ≠ y → K.1.2 10 x ≠ K.1.2 10 y := x_apart hKT hts inX10 tyX10 tyX10_ok nmX10 rfl
  have mf0 : MF K s.heap s.heap a0 [18] := fun _ _ _ => rfl
  have J3 : ∀ (nf : Nat)  (ls370 : Array Slot) (H369 : Heap) (locsH369 : List Loc) (x372 : Int32) (x373 : Int32), lv_has ls370 3 [(0, .ref a0), (1, .int x1), (2, .int x372)] → TY K G H369 → va_S (AE G [112, 126] s.heap.size) s.heap H369 locsH369 → ((-8) ≤ x372.toInt ∧ x372.toInt ≤ 24) → (0 ≤ x373.toInt ∧ x373.toInt ≤ 500) → (x373 = fI H369 a0 (K.1.2 10 18)) → (@Eq Ad tq (fR H369 a0 (K.1.2 10 17))) → (MF K s.heap H369 a0 [18]) → (CG (avw K H369 a0)) → (TU (avw K H369 a0) (svw K H369 a0)) → (WD (avw K H369 a0)) → (IM (avw K H369 a0)) → (x372.toInt - (-8) < (nf : Int)) → (8 * (x373.toInt - tp.toInt) = 24 - x372.toInt) → (∀ j : Nat, fI H369 tq j = adk x1 tp.toNatClampNeg x373.toNatClampNeg (fun j => fI s.heap tq j) j) → W p l e ({ frames := 0, cells := 0, slots := 0, locals := 0 } : Room) s m (([.ref a0, .int x1] : List Value).toArray) below meth c H369 locsH369 0 0 Q (F0 m 3 ls370 []) := by
    intro nf
    induction nf with
    | zero =>
      intro  ls370 H369 locsH369 x372 x373 hl371 hTH369 hSH369 bx372 bx373 ex373 cy374_0 mfy374 gy374_CG gy374_TU gy374_WD gy374_IM hm3 iv3 hby3
      exfalso
      omega
    | succ nf ih3 =>
      intro  ls370 H369 locsH369 x372 x373 hl371 hTH369 hSH369 bx372 bx373 ex373 cy374_0 mfy374 gy374_CG gy374_TU gy374_WD gy374_IM hm3 iv3 hby3
      refine lv_iload_n hx hb dX10_puts_3 rfl (lv_at hl371 2 rfl) ?_
      refine lv_if_lt (tgt := 39) hx hb dX10_puts_4 (by decide) (fun c375 => ?_) (fun c375 => ?_)
      · have k376 := i_lt c375
        have cn_x373 := i_cl (x := x373) bx373.1
        have cn_tp := i_cl (x := tp) (by omega)
        exact x_vret C hQ dX10_puts_39 hSH369 (by decide) (by decide) (⟨x373, rfl, ex373, by omega, cy374_0, gy374_CG, gy374_TU, gy374_WD, gy374_IM, mfy374, (fun j => by have z := hby3 j; rw [show x373.toNatClampNeg = tp.toNatClampNeg + 4 by omega] at z; exact z), hTH369⟩)
      · have k376 := i_nlt c375
        refine lv_aload_n hx hb dX10_puts_7 rfl (lv_at hl371 0 rfl) ?_
        refine x_gr C hTH369 (ci := 10) (k := 17) rfl inX10 (by decide) wF_X10_53 ga0 rg_112 rfl dX10_puts_8 (fun q377 eq377 gq377 => ?_)
        have uq377 : tq = q377 := (cy374_0).trans eq377.symm
        subst uq377
        refine lv_aload_n hx hb dX10_puts_11 rfl (lv_at hl371 0 rfl) ?_
        refine x_gi C hTH369 (ci := 10) (k := 18) rfl inX10 (by decide) wF_X10_185 ga0 rg_112 rfl dX10_puts_12 (fun x378 ex378 bx378 => ?_)
        have ux378 : x373 = x378 := (ex373).trans ex378.symm
        subst ux378
        refine lv_iload_n hx hb dX10_puts_15 rfl (lv_at hl371 1 rfl) ?_
        refine lv_iload_n hx hb dX10_puts_16 rfl (lv_at hl371 2 rfl) ?_
        refine lv_ishr hx hb dX10_puts_17 ?_
        refine lv_topi (fun x379 ex379 => ?_)
        refine lv_sipush (v := 255) hx hb dX10_puts_18 (by decide) ?_
        refine lv_iand hx hb dX10_puts_21 ?_
        refine lv_topi (fun x380 ex380 => ?_)
        have tx380 := i_and255 ex380
        refine x_iast C hTH369 hSH369 gtq rg_126 bx373.1 (by show _ < ((500 : Nat) : Int); omega) (i_rng x380) (AE_in gtq (by decide)) dX10_puts_22 (fun H381 locsH381 hTH381 hSH381 wH381 => ?_)
        have mf382 : MF K s.heap H381 a0 [18] := MF.arr wH381 (G_ne ga0 gtq (by decide)) mfy374
        have g383 : CG (avw K H381 a0) := CG.congr (fun k hk j => av_arr hTH369 ga0 wH381 gtq (by decide) (CG_ok 126 (by decide) k hk)) gy374_CG
        have g384 : TU (avw K H381 a0) (svw K H381 a0) := TU.congr (fun k hk j => av_arr hTH369 ga0 wH381 gtq (by decide) (TU_ok 126 (by decide) k hk)) (fun k hk => sv_arr ga0 wH381 gtq (by decide)) gy374_TU
        have g385 : WD (avw K H381 a0) := WD.congr (fun k hk j => av_arr hTH369 ga0 wH381 gtq (by decide) (WD_ok 126 (by decide) k hk)) gy374_WD
        have g386 : IM (avw K H381 a0) := IM.congr (fun k hk j => av_arr hTH369 ga0 wH381 gtq (by decide) (IM_ok 126 (by decide) k hk)) gy374_IM
        have m387 := ex373.trans (Wr.neI wH381 (Or.inl (G_ne ga0 gtq (by decide)))).symm
        have m388 := cy374_0.trans (Wr.neR wH381 (Or.inl (G_ne ga0 gtq (by decide)))).symm
        have m389 := Wr.I wH381
        have m389 := m389.symm
        refine lv_aload_n hx hb dX10_puts_23 rfl (lv_at hl371 0 rfl) ?_
        refine lv_aload_n hx hb dX10_puts_24 rfl (lv_at hl371 0 rfl) ?_
        refine x_gi C hTH381 (ci := 10) (k := 18) rfl inX10 (by decide) wF_X10_185 ga0 rg_112 rfl dX10_puts_25 (fun x390 ex390 bx390 => ?_)
        have ux390 : x373 = x390 := (m387).trans ex390.symm
        subst ux390
        refine lv_iconst (v := 1) hx hb dX10_puts_28 (by decide) ?_
        refine lv_iadd hx hb dX10_puts_29 ?_
        refine lv_topi (fun x391 ex391 => ?_)
        have tx391 := i_add ex391 (by omega)
        have fz393 : 0 ≤ x391.toInt ∧ x391.toInt ≤ 500 := by have := i_rng x391; omega
        refine x_put C hTH381 hSH381 (ci := 10) (k := 18) (v := .int x391) (ty0 := tyX10) rfl inX10 tyX10_ok nmX10 (by decide) rfl wF_X10_185 ga0 rg_112 rfl rfl (okI fz393.1 fz393.2) rfl rfl (AE_in ga0 (by decide)) dX10_puts_30 (fun H392 locsH392 hTH392 hSH392 wH392 => ?_)
        have mf394 : MF K s.heap H392 a0 [18] := MF.fld hap wH392 (by decide) (by decide) mf382
        have g395 : CG (avw K H392 a0) := CG.congr (fun k hk j => av_fld hTH381 ga0 hap wH392 (by decide) (CG_ok 112 (by decide) k hk) (CG_ne 18 (by decide) k hk)) g383
        have g396 : TU (avw K H392 a0) (svw K H392 a0) := TU.congr (fun k hk j => av_fld hTH381 ga0 hap wH392 (by decide) (TU_ok 112 (by decide) k hk) (TU_ne 18 (by decide) k hk)) (fun k hk => sv_fld hap wH392 (by decide) (TU_slt k hk) (TU_sne 18 (by decide) k hk)) g384
        have g397 : WD (avw K H392 a0) := WD.congr (fun k hk j => av_fld hTH381 ga0 hap wH392 (by decide) (WD_ok 112 (by decide) k hk) (WD_ne 18 (by decide) k hk)) g385
        have g398 : IM (avw K H392 a0) := IM.congr (fun k hk j => av_fld hTH381 ga0 hap wH392 (by decide) (IM_ok 112 (by decide) k hk) (IM_ne 18 (by decide) k hk)) g386
        have m400 := m388.trans (Wr.neR wH392 (Or.inr (x_apart hKT hts inX10 tyX10 tyX10_ok nmX10 rfl 17 18 (by decide) (by decide) (by decide)))).symm
        have m401 := m389.trans (Wr.neI wH392 (Or.inl (G_ne gtq ga0 (by decide)))).symm
        have m402 := Wr.I wH392
        have m402 := m402.symm
        obtain ⟨x403, ex403⟩ : ∃ y : Int32, y = x372 + (-8) := ⟨_, rfl⟩
        have tx403 := i_add ex403 (by omega)
        refine lv_iinc (v := x403) (lv' := [(2, .int x403), (0, .ref a0), (1, .int x1)]) hx hb dX10_puts_33 hl371 (k := 2) rfl (by rw [ex403]; rfl) (by decide) rfl (fun ls404 hl405 => ?_)
        refine lv_goto (tgt := 3) hx hb dX10_puts_36 (by decide) ?_
        have cn_x373 := i_cl (x := x373) bx373.1
        have cn_tp := i_cl (x := tp) (by omega)
        have cn_x391 := i_cl (x := x391) (by omega)
        exact ih3  ls404 H392 locsH392 (x403) (x391) (lv_sub hl405 [1, 2, 0] rfl) hTH392 hSH392 (by have := i_rng x403; omega) (by have := i_rng x391; omega) m402 m400 mf394 g395 g396 g397 g398 (by omega) (by omega) (fun j => (Wr.neI wH392 (Or.inl (G_ne gtq ga0 (by decide)))).trans (adk_step hby3 (Wr.I wH381) (fun j hj => Wr.neI wH381 (Or.inr hj)) rfl (by omega) (byR ex379 ex380 (by omega) (by omega)) (by omega) j))
  refine lv_bipush (v := 24) hx hb dX10_puts_0 (by decide) ?_
  refine lv_istore_n (lv' := [(2, .int 24), (0, .ref a0), (1, .int x1)]) hx hb dX10_puts_2 rfl hl (by decide) rfl (fun ls406 hl407 => ?_)
  exact J3 (((24 : Int32).toInt - (-8)).toNat + 1)  ls406 s.heap [] (24) (tp) (lv_sub hl407 [1, 2, 0] rfl) hT hS (by decide) (by have := i_rng tp; omega) etp etq mf0 hg_CG hg_TU hg_WD hg_IM (by omega) (by omega) (fun j => adk_0 j)

set_option maxHeartbeats 4000000 in
set_option maxRecDepth 100000 in
theorem a_X9_feed_b (l : Launch) (K : KE) (G : Nat → Option Nat) (H : Heap) {a0 : Nat} (x1 : Int32) (x2 : Int32) (x3 : Int32) (x4 : Int32) (x5 : Int32) {wq : Nat} {tq : Nat} (tp : Int32) {kv : Value} (hT : TY K G H) (ga0 : G a0 = some 68) (gwq : G wq = some 0) (ewq : @Eq Ad wq (fR H a0 (K.1.2 9 0))) (gtq : G tq = some 108) (etq : @Eq Ad tq (fR H a0 (K.1.2 9 2))) (etp : tp = fI H a0 (K.1.2 9 3)) (hkv : fV H a0 (K.1.2 9 1) = kv) : MX l K yX9_feed cX9_feed 6 (some .int) 1 22 0 0 [.ref a0, .int x1, .int x2, .int x3, .int x4, .int x5] H (AE G [68, 108] H.size) (fun v H1 => ∃ (r : Int32) (t0 : Int32), v = some (.int r) ∧ t0 = fI H1 a0 (K.1.2 9 3) ∧ ((tp.toInt ≤ 480 ∧ r.toInt = tp.toInt + 20 ∧ t0.toInt = tp.toInt + 20) ∨ (480 < tp.toInt ∧ r.toInt = -1 ∧ t0.toInt = tp.toInt)) ∧ @Eq Ad wq (fR H1 a0 (K.1.2 9 0)) ∧ @Eq Ad tq (fR H1 a0 (K.1.2 9 2)) ∧ (∀ j : Nat, fI H1 tq j = fdX x1 x2 x3 x4 x5 tp (fun j => fI H tq j) j) ∧ fV H1 a0 (K.1.2 9 1) = kv ∧ TY K G H1) := by
  refine MX.of (by decide +kernel) (Nat.le_of_ble_eq_true rfl) ?_
  intro p e s m below meth c ls Q C hH hl hQ
  subst hH
  have C : CX p K s m _ meth c RX9 cX9_feed 6 (some .int) "feed" := C
  obtain ⟨hx, hb, hml, hown, hts, hKT, hr, hlocks, hnm⟩ := id C
  have hl : lv_has ls 6 [(0, .ref a0), (1, .int x1), (2, .int x2), (3, .int x3), (4, .int x4), (5, .int x5)] := hl
  have hS : va_S (AE G [68, 108] s.heap.size) s.heap s.heap [] := va_S.rf
  have n_m1 : ((-1) : Int32).toInt = -1 := rfl
  have n_20 : (20 : Int32).toInt = 20 := rfl
  have n_500 : (500 : Int32).toInt = 500 := rfl
  have btp := ty_fi (x := tp) (k := 3) etp hT ga0 rg_68 rfl
  have f0_te : ∀ j : Nat, fI s.heap tq j = fI s.heap tq j := fun _ => rfl
  refine lv_aload_n hx hb dX9_feed_0 rfl (lv_at hl 0 rfl) ?_
  refine x_gi C hT (ci := 9) (k := 3) rfl inX9 (by decide) wF_X9_105 ga0 rg_68 rfl dX9_feed_1 (fun x241 ex241 bx241 => ?_)
  have ux241 : tp = x241 := (etp).trans ex241.symm
  subst ux241
  refine lv_bipush (v := 20) hx hb dX9_feed_4 (by decide) ?_
  refine lv_iadd hx hb dX9_feed_6 ?_
  refine lv_topi (fun x242 ex242 => ?_)
  have tx242 := i_add ex242 (by omega)
  refine lv_sipush (v := 500) hx hb dX9_feed_7 (by decide) ?_
  refine lv_icmp_le (tgt := 15) hx hb dX9_feed_10 (by decide) (fun c243 => ?_) (fun c243 => ?_)
  · have k244 := i_le c243
    refine lv_aload_n hx hb dX9_feed_15 rfl (lv_at hl 0 rfl) ?_
    refine lv_iload_n hx hb dX9_feed_16 rfl (lv_at hl 1 rfl) ?_
    refine x_V (As := [.int x1]) (rest := []) C (a_X9_addBytes_b l K G s.heap (x1) (tp) hT ga0 gwq ewq gtq etq etp (by omega) hkv) yo_X9_addBytes wM_X9_108 ⟨⟨by decide, by decide⟩, by decide, by decide⟩ (x_rv C hT (ci := 9) rfl ga0 rg_68) rfl hl.1 rfl (Nat.le_of_ble_eq_true rfl) dX9_feed_17 hS (AE_sub (fun _ _ => rfl) (by decide) hS.1) (fun vH245 H245 locsH245 pH245 zH245 kH245 hSH245 => ?_)
    obtain ⟨x246, hvH245, ex246, hrH245, m247, m248, m249, m250, hTH245⟩ := pH245
    subst hvH245
    have bx246 := ty_fi (x := x246) (k := 3) ex246 hTH245 ga0 rg_68 rfl
    refine W.eq (g2 := F0 m 20 ls []) rfl ?_
    refine lv_aload_n hx hb dX9_feed_20 rfl (lv_at hl 0 rfl) ?_
    refine lv_iload_n hx hb dX9_feed_21 rfl (lv_at hl 2 rfl) ?_
    refine x_V (As := [.int x2]) (rest := []) C (a_X9_addBytes_b l K G H245 (x2) (x246) hTH245 ga0 gwq m247 gtq m248 ex246 (by omega) m250) yo_X9_addBytes wM_X9_108 ⟨⟨by decide, by decide⟩, by decide, by decide⟩ (x_rv C hTH245 (ci := 9) rfl ga0 rg_68) rfl hl.1 rfl (Nat.le_of_ble_eq_true rfl) dX9_feed_22 hSH245 (AE_sub (fun _ _ => rfl) (by decide) hSH245.1) (fun vH251 H251 locsH251 pH251 zH251 kH251 hSH251 => ?_)
    obtain ⟨x252, hvH251, ex252, hrH251, m253, m254, m255, m256, hTH251⟩ := pH251
    subst hvH251
    have bx252 := ty_fi (x := x252) (k := 3) ex252 hTH251 ga0 rg_68 rfl
    refine W.eq (g2 := F0 m 25 ls []) rfl ?_
    refine lv_aload_n hx hb dX9_feed_25 rfl (lv_at hl 0 rfl) ?_
    refine lv_iload_n hx hb dX9_feed_26 rfl (lv_at hl 3 rfl) ?_
    refine x_V (As := [.int x3]) (rest := []) C (a_X9_addBytes_b l K G H251 (x3) (x252) hTH251 ga0 gwq m253 gtq m254 ex252 (by omega) m256) yo_X9_addBytes wM_X9_108 ⟨⟨by decide, by decide⟩, by decide, by decide⟩ (x_rv C hTH251 (ci := 9) rfl ga0 rg_68) rfl hl.1 rfl (Nat.le_of_ble_eq_true rfl) dX9_feed_27 hSH251 (AE_sub (fun _ _ => rfl) (by decide) hSH251.1) (fun vH257 H257 locsH257 pH257 zH257 kH257 hSH257 => ?_)
    obtain ⟨x258, hvH257, ex258, hrH257, m259, m260, m261, m262, hTH257⟩ := pH257
    subst hvH257
    clear m247 m248 m250
    have bx258 := ty_fi (x := x258) (k := 3) ex258 hTH257 ga0 rg_68 rfl
    refine W.eq (g2 := F0 m 30 ls []) rfl ?_
    refine lv_aload_n hx hb dX9_feed_30 rfl (lv_at hl 0 rfl) ?_
    refine lv_iload hx hb dX9_feed_31 (lv_at hl 4 rfl) ?_
    refine x_V (As := [.int x4]) (rest := []) C (a_X9_addBytes_b l K G H257 (x4) (x258) hTH257 ga0 gwq m259 gtq m260 ex258 (by omega) m262) yo_X9_addBytes wM_X9_108 ⟨⟨by decide, by decide⟩, by decide, by decide⟩ (x_rv C hTH257 (ci := 9) rfl ga0 rg_68) rfl hl.1 rfl (Nat.le_of_ble_eq_true rfl) dX9_feed_33 hSH257 (AE_sub (fun _ _ => rfl) (by decide) hSH257.1) (fun vH263 H263 locsH263 pH263 zH263 kH263 hSH263 => ?_)
    obtain ⟨x264, hvH263, ex264, hrH263, m265, m266, m267, m268, hTH263⟩ := pH263
    subst hvH263
    clear m253 m254 m256
    have bx264 := ty_fi (x := x264) (k := 3) ex264 hTH263 ga0 rg_68 rfl
    refine W.eq (g2 := F0 m 36 ls []) rfl ?_
    refine lv_aload_n hx hb dX9_feed_36 rfl (lv_at hl 0 rfl) ?_
    refine lv_iload hx hb dX9_feed_37 (lv_at hl 5 rfl) ?_
    refine x_V (As := [.int x5]) (rest := []) C (a_X9_addBytes_b l K G H263 (x5) (x264) hTH263 ga0 gwq m265 gtq m266 ex264 (by omega) m268) yo_X9_addBytes wM_X9_108 ⟨⟨by decide, by decide⟩, by decide, by decide⟩ (x_rv C hTH263 (ci := 9) rfl ga0 rg_68) rfl hl.1 rfl (Nat.le_of_ble_eq_true rfl) dX9_feed_39 hSH263 (AE_sub (fun _ _ => rfl) (by decide) hSH263.1) (fun vH269 H269 locsH269 pH269 zH269 kH269 hSH269 => ?_)
    obtain ⟨x270, hvH269, ex270, hrH269, m271, m272, m273, m274, hTH269⟩ := pH269
    subst hvH269
    clear m259 m260 m262
    have bx270 := ty_fi (x := x270) (k := 3) ex270 hTH269 ga0 rg_68 rfl
    refine W.eq (g2 := F0 m 42 ls []) rfl ?_
    refine lv_aload_n hx hb dX9_feed_42 rfl (lv_at hl 0 rfl) ?_
    refine x_gi C hTH269 (ci := 9) (k := 3) rfl inX9 (by decide) wF_X9_105 ga0 rg_68 rfl dX9_feed_43 (fun x275 ex275 bx275 => ?_)
    have ux275 : x270 = x275 := (ex270).trans ex275.symm
    subst ux275
    have cn_tp := i_cl (x := tp) (by omega)
    have cn_x246 := i_cl (x := x246) bx246.1
    have cn_x252 := i_cl (x := x252) bx252.1
    have cn_x258 := i_cl (x := x258) bx258.1
    have cn_x264 := i_cl (x := x264) bx264.1
    exact x_iret C hQ dX9_feed_46 hSH269 (by decide) (by decide) (⟨x270, x270, rfl, ex270, by omega, m271, m272, (fun j => ((fun j => (m273 j).trans (adk_c (fun j => (m267 j).trans (adk_c (fun j => (m261 j).trans (adk_c (fun j => (m255 j).trans (adk_c (fun j => (m249 j).trans (adk_c f0_te (by omega) (by omega) j)) (by omega) (by omega) j)) (by omega) (by omega) j)) (by omega) (by omega) j)) (by omega) (by omega) j)) j).trans (if_pos (by omega)).symm), m274, hTH269⟩)
  · have k244 := i_nle c243
    refine lv_iconst (v := (-1)) hx hb dX9_feed_13 (by decide) ?_
    exact x_iret C hQ dX9_feed_14 hS (by decide) (by decide) (⟨(-1), tp, rfl, etp, by omega, ewq, etq, (fun j => (f0_te j).trans (if_neg (by omega)).symm), hkv, hT⟩)

set_option maxHeartbeats 4000000 in
set_option maxRecDepth 100000 in
theorem a_X10_feed_b (l : Launch) (K : KE) (G : Nat → Option Nat) (H : Heap) {a0 : Nat} (x1 : Int32) (x2 : Int32) (x3 : Int32) (x4 : Int32) (x5 : Int32) {tq : Nat} (tp : Int32) (hT : TY K G H) (ga0 : G a0 = some 112) (gtq : G tq = some 126) (etq : @Eq Ad tq (fR H a0 (K.1.2 10 17))) (etp : tp = fI H a0 (K.1.2 10 18)) (hg_CG : CG (avw K H a0)) (hg_TU : TU (avw K H a0) (svw K H a0)) (hg_WD : WD (avw K H a0)) (hg_IM : IM (avw K H a0)) : MX l K yX10_feed cX10_feed 6 (some .int) 1 22 0 0 [.ref a0, .int x1, .int x2, .int x3, .int x4, .int x5] H (AE G [112, 126] H.size) (fun v H1 => ∃ (r : Int32) (t0 : Int32), v = some (.int r) ∧ t0 = fI H1 a0 (K.1.2 10 18) ∧ ((tp.toInt ≤ 480 ∧ r.toInt = tp.toInt + 20 ∧ t0.toInt = tp.toInt + 20) ∨ (480 < tp.toInt ∧ r.toInt = -1 ∧ t0.toInt = tp.toInt)) ∧ @Eq Ad tq (fR H1 a0 (K.1.2 10 17)) ∧ (CG (avw K H1 a0)) ∧ (TU (avw K H1 a0) (svw K H1 a0)) ∧ (WD (avw K H1 a0)) ∧ (IM (avw K H1 a0)) ∧ MF K H H1 a0 [0, 18] ∧ (∀ j : Nat, fI H1 tq j = fdX x1 x2 x3 x4 x5 tp (fun j => fI H tq j) j) ∧ TY K G H1) := by
  refine MX.of (by decide +kernel) (Nat.le_of_ble_eq_true rfl) ?_
  intro p e s m below meth c ls Q C hH hl hQ
  subst hH
  have C : CX p K s m _ meth c RX10 cX10_feed 6 (some .int) "feed" := C
  obtain ⟨hx, hb, hml, hown, hts, hKT, hr, hlocks, hnm⟩ := id C
  have hl : lv_has ls 6 [(0, .ref a0), (1, .int x1), (2, .int x2), (3, .int x3), (4, .int x4), (5, .int x5)] := hl
  have hS : va_S (AE G [112, 126] s.heap.size) s.heap s.heap [] := va_S.rf
  have n_m1 : ((-1) : Int32).toInt = -1 := rfl
  have n_0 : (0 : Int32).toInt = 0 := rfl
  have n_480 : (480 : Int32).toInt = 480 := rfl
  have btp := ty_fi (x := tp) (k := 18) etp hT ga0 rg_112 rfl
  have hap : ∀ x y, x < 74 → y < 74 → x ≠ y → K.1.2 10 x ≠ K.1.2 10 y := x_apart hKT hts inX10 tyX10 tyX10_ok nmX10 rfl
  have mf0 : MF K s.heap s.heap a0 [0, 18] := fun _ _ _ => rfl
  have f0_te : ∀ j : Nat, fI s.heap tq j = fI s.heap tq j := fun _ => rfl
  refine lv_aload_n hx hb dX10_feed_0 rfl (lv_at hl 0 rfl) ?_
  refine lv_iconst (v := 0) hx hb dX10_feed_1 (by decide) ?_
  refine x_put C hT hS (ci := 10) (k := 0) (v := .int 0) (ty0 := tyX10) rfl inX10 tyX10_ok nmX10 (by decide) rfl wF_X10_167 ga0 rg_112 rfl rfl (okI (i_rng (0 : Int32)).1 (i_rng (0 : Int32)).2) rfl rfl (AE_in ga0 (by decide)) dX10_feed_2 (fun H397 locsH397 hTH397 hSH397 wH397 => ?_)
  have mf398 : MF K s.heap H397 a0 [0, 18] := MF.fld hap wH397 (by decide) (by decide) mf0
  have g399 : CG (avw K H397 a0) := CG.congr (fun k hk j => av_fld hT ga0 hap wH397 (by decide) (CG_ok 112 (by decide) k hk) (CG_ne 0 (by decide) k hk)) hg_CG
  have g400 : TU (avw K H397 a0) (svw K H397 a0) := TU.congr (fun k hk j => av_fld hT ga0 hap wH397 (by decide) (TU_ok 112 (by decide) k hk) (TU_ne 0 (by decide) k hk)) (fun k hk => sv_fld hap wH397 (by decide) (TU_slt k hk) (TU_sne 0 (by decide) k hk)) hg_TU
  have g401 : WD (avw K H397 a0) := WD.congr (fun k hk j => av_fld hT ga0 hap wH397 (by decide) (WD_ok 112 (by decide) k hk) (WD_ne 0 (by decide) k hk)) hg_WD
  have g402 : IM (avw K H397 a0) := IM.congr (fun k hk j => av_fld hT ga0 hap wH397 (by decide) (IM_ok 112 (by decide) k hk) (IM_ne 0 (by decide) k hk)) hg_IM
  have f403 : ∀ j : Nat, fI H397 tq j = fI s.heap tq j := fun j => (Wr.neI wH397 (Or.inl (G_ne gtq ga0 (by decide)))).trans (f0_te j)
  have m404 := etq.trans (Wr.neR wH397 (Or.inr (x_apart hKT hts inX10 tyX10 tyX10_ok nmX10 rfl 17 0 (by decide) (by decide) (by decide)))).symm
  have m405 := etp.trans (Wr.neI wH397 (Or.inr (x_apart hKT hts inX10 tyX10 tyX10_ok nmX10 rfl 18 0 (by decide) (by decide) (by decide)))).symm
  have m406 := Wr.I wH397
  refine lv_aload_n hx hb dX10_feed_5 rfl (lv_at hl 0 rfl) ?_
  refine x_gi C hTH397 (ci := 10) (k := 18) rfl inX10 (by decide) wF_X10_185 ga0 rg_112 rfl dX10_feed_6 (fun x407 ex407 bx407 => ?_)
  have ux407 : tp = x407 := (m405).trans ex407.symm
  subst ux407
  refine lv_sipush (v := 480) hx hb dX10_feed_9 (by decide) ?_
  refine lv_icmp_le (tgt := 17) hx hb dX10_feed_12 (by decide) (fun c408 => ?_) (fun c408 => ?_)
  · have k409 := i_le c408
    refine lv_aload_n hx hb dX10_feed_17 rfl (lv_at hl 0 rfl) ?_
    refine lv_iload_n hx hb dX10_feed_18 rfl (lv_at hl 1 rfl) ?_
    refine x_V (As := [.int x1]) (rest := []) C (a_X10_puts_b l K G H397 (x1) (tp) hTH397 ga0 gtq m404 m405 g399 g400 g401 g402 (by omega)) yo_X10_puts wM_X10_188 ⟨⟨by decide, by decide⟩, by decide, by decide⟩ (x_rv C hTH397 (ci := 10) rfl ga0 rg_112) rfl hl.1 rfl (Nat.le_of_ble_eq_true rfl) dX10_feed_19 hSH397 (AE_sub (fun _ _ => rfl) (by decide) hSH397.1) (fun vH410 H410 locsH410 pH410 zH410 kH410 hSH410 => ?_)
    obtain ⟨x411, hvH410, ex411, hrH410, m412, g413, g414, g415, g416, mf417, m418, hTH410⟩ := pH410
    subst hvH410
    have m419 := (m404).trans (MF.r mf417 (k := 17) (by decide) (by decide)).symm
    have m420 := (MF.i mf417 (k := 0) (by decide) (by decide)).trans m406
    have mf421 : MF K s.heap H410 a0 [0, 18] := MF.trans mf398 mf417 (by decide)
    have bx411 := ty_fi (x := x411) (k := 18) ex411 hTH410 ga0 rg_112 rfl
    refine W.eq (g2 := F0 m 22 ls []) rfl ?_
    refine lv_aload_n hx hb dX10_feed_22 rfl (lv_at hl 0 rfl) ?_
    refine lv_iload_n hx hb dX10_feed_23 rfl (lv_at hl 2 rfl) ?_
    refine x_V (As := [.int x2]) (rest := []) C (a_X10_puts_b l K G H410 (x2) (x411) hTH410 ga0 gtq m412 ex411 g413 g414 g415 g416 (by omega)) yo_X10_puts wM_X10_188 ⟨⟨by decide, by decide⟩, by decide, by decide⟩ (x_rv C hTH410 (ci := 10) rfl ga0 rg_112) rfl hl.1 rfl (Nat.le_of_ble_eq_true rfl) dX10_feed_24 hSH410 (AE_sub (fun _ _ => rfl) (by decide) hSH410.1) (fun vH422 H422 locsH422 pH422 zH422 kH422 hSH422 => ?_)
    obtain ⟨x423, hvH422, ex423, hrH422, m424, g425, g426, g427, g428, mf429, m430, hTH422⟩ := pH422
    subst hvH422
    clear f403 m404 m405 m406
    have m431 := (m412).trans (MF.r mf429 (k := 17) (by decide) (by decide)).symm
    have m432 := (MF.i mf429 (k := 0) (by decide) (by decide)).trans m420
    have mf433 : MF K s.heap H422 a0 [0, 18] := MF.trans mf421 mf429 (by decide)
    have bx423 := ty_fi (x := x423) (k := 18) ex423 hTH422 ga0 rg_112 rfl
    refine W.eq (g2 := F0 m 27 ls []) rfl ?_
    refine lv_aload_n hx hb dX10_feed_27 rfl (lv_at hl 0 rfl) ?_
    refine lv_iload_n hx hb dX10_feed_28 rfl (lv_at hl 3 rfl) ?_
    refine x_V (As := [.int x3]) (rest := []) C (a_X10_puts_b l K G H422 (x3) (x423) hTH422 ga0 gtq m424 ex423 g425 g426 g427 g428 (by omega)) yo_X10_puts wM_X10_188 ⟨⟨by decide, by decide⟩, by decide, by decide⟩ (x_rv C hTH422 (ci := 10) rfl ga0 rg_112) rfl hl.1 rfl (Nat.le_of_ble_eq_true rfl) dX10_feed_29 hSH422 (AE_sub (fun _ _ => rfl) (by decide) hSH422.1) (fun vH434 H434 locsH434 pH434 zH434 kH434 hSH434 => ?_)
    obtain ⟨x435, hvH434, ex435, hrH434, m436, g437, g438, g439, g440, mf441, m442, hTH434⟩ := pH434
    subst hvH434
    clear m412 m420
    have m443 := (m424).trans (MF.r mf441 (k := 17) (by decide) (by decide)).symm
    have m444 := (MF.i mf441 (k := 0) (by decide) (by decide)).trans m432
    have mf445 : MF K s.heap H434 a0 [0, 18] := MF.trans mf433 mf441 (by decide)
    have bx435 := ty_fi (x := x435) (k := 18) ex435 hTH434 ga0 rg_112 rfl
    refine W.eq (g2 := F0 m 32 ls []) rfl ?_
    refine lv_aload_n hx hb dX10_feed_32 rfl (lv_at hl 0 rfl) ?_
    refine lv_iload hx hb dX10_feed_33 (lv_at hl 4 rfl) ?_
    refine x_V (As := [.int x4]) (rest := []) C (a_X10_puts_b l K G H434 (x4) (x435) hTH434 ga0 gtq m436 ex435 g437 g438 g439 g440 (by omega)) yo_X10_puts wM_X10_188 ⟨⟨by decide, by decide⟩, by decide, by decide⟩ (x_rv C hTH434 (ci := 10) rfl ga0 rg_112) rfl hl.1 rfl (Nat.le_of_ble_eq_true rfl) dX10_feed_35 hSH434 (AE_sub (fun _ _ => rfl) (by decide) hSH434.1) (fun vH446 H446 locsH446 pH446 zH446 kH446 hSH446 => ?_)
    obtain ⟨x447, hvH446, ex447, hrH446, m448, g449, g450, g451, g452, mf453, m454, hTH446⟩ := pH446
    subst hvH446
    clear m424 m432
    have m455 := (m436).trans (MF.r mf453 (k := 17) (by decide) (by decide)).symm
    have m456 := (MF.i mf453 (k := 0) (by decide) (by decide)).trans m444
    have mf457 : MF K s.heap H446 a0 [0, 18] := MF.trans mf445 mf453 (by decide)
    have bx447 := ty_fi (x := x447) (k := 18) ex447 hTH446 ga0 rg_112 rfl
    refine W.eq (g2 := F0 m 38 ls []) rfl ?_
    refine lv_aload_n hx hb dX10_feed_38 rfl (lv_at hl 0 rfl) ?_
    refine lv_iload hx hb dX10_feed_39 (lv_at hl 5 rfl) ?_
    refine x_V (As := [.int x5]) (rest := []) C (a_X10_puts_b l K G H446 (x5) (x447) hTH446 ga0 gtq m448 ex447 g449 g450 g451 g452 (by omega)) yo_X10_puts wM_X10_188 ⟨⟨by decide, by decide⟩, by decide, by decide⟩ (x_rv C hTH446 (ci := 10) rfl ga0 rg_112) rfl hl.1 rfl (Nat.le_of_ble_eq_true rfl) dX10_feed_41 hSH446 (AE_sub (fun _ _ => rfl) (by decide) hSH446.1) (fun vH458 H458 locsH458 pH458 zH458 kH458 hSH458 => ?_)
    obtain ⟨x459, hvH458, ex459, hrH458, m460, g461, g462, g463, g464, mf465, m466, hTH458⟩ := pH458
    subst hvH458
    clear m436 m444
    have m467 := (m448).trans (MF.r mf465 (k := 17) (by decide) (by decide)).symm
    have m468 := (MF.i mf465 (k := 0) (by decide) (by decide)).trans m456
    have mf469 : MF K s.heap H458 a0 [0, 18] := MF.trans mf457 mf465 (by decide)
    have bx459 := ty_fi (x := x459) (k := 18) ex459 hTH458 ga0 rg_112 rfl
    refine W.eq (g2 := F0 m 44 ls []) rfl ?_
    refine lv_aload_n hx hb dX10_feed_44 rfl (lv_at hl 0 rfl) ?_
    refine x_gi C hTH458 (ci := 10) (k := 18) rfl inX10 (by decide) wF_X10_185 ga0 rg_112 rfl dX10_feed_45 (fun x470 ex470 bx470 => ?_)
    have ux470 : x459 = x470 := (ex459).trans ex470.symm
    subst ux470
    have cn_tp := i_cl (x := tp) (by omega)
    have cn_x411 := i_cl (x := x411) bx411.1
    have cn_x423 := i_cl (x := x423) bx423.1
    have cn_x435 := i_cl (x := x435) bx435.1
    have cn_x447 := i_cl (x := x447) bx447.1
    exact x_iret C hQ dX10_feed_48 hSH458 (by decide) (by decide) (⟨x459, x459, rfl, ex459, by omega, m460, g461, g462, g463, g464, mf469, (fun j => ((fun j => (m466 j).trans (adk_c (fun j => (m454 j).trans (adk_c (fun j => (m442 j).trans (adk_c (fun j => (m430 j).trans (adk_c (fun j => (m418 j).trans (adk_c f403 (by omega) (by omega) j)) (by omega) (by omega) j)) (by omega) (by omega) j)) (by omega) (by omega) j)) (by omega) (by omega) j)) j).trans (if_pos (by omega)).symm), hTH458⟩)
  · have k409 := i_nle c408
    refine lv_iconst (v := (-1)) hx hb dX10_feed_15 (by decide) ?_
    exact x_iret C hQ dX10_feed_16 hSH397 (by decide) (by decide) (⟨(-1), tp, rfl, m405, by omega, m404, g399, g400, g401, g402, mf398, (fun j => (f403 j).trans (if_neg (by omega)).symm), hTH397⟩)
