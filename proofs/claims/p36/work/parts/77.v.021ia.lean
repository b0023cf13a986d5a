/-! ===== bars of the two sides, alike ===== -/
/-- alike: all rows, the passes that were kept -/
def EqW (v u : BW) : Prop := (∀ k j : Nat, k ≠ 6 → k ≠ 7 → j < wdV k → v k j = u k j) ∧ ∀ j : Nat, (j : Int) < v 8 0 → v 6 j = u 6 j ∧ v 7 j = u 7 j
theorem EqW.rf {v : BW} : EqW v v := ⟨fun _ _ _ _ _ => rfl, fun _ _ => ⟨rfl, rfl⟩⟩
theorem EqV.w {v u : BW} (h : EqV v u) (hv : v 8 0 ≤ 200) : EqW v u := ⟨fun k j _ _ hj => h k j hj, fun j hj => ⟨h 6 j (by show j < 200; omega), h 7 j (by show j < 200; omega)⟩⟩
theorem EqW.a {v u : BW} (h : EqW v u) (k j : Nat) (hk : k ≠ 6 ∧ k ≠ 7) (hj : j < wdV k) : v k j = u k j := h.1 k j hk.1 hk.2 hj
theorem EqW.up {v u : BW} {k j : Nat} {x y : Int} (h : EqW v u) (e : x = y) (hk : k ≠ 6 ∧ k ≠ 7 ∧ k ≠ 8) : EqW (upV v k j x) (upV u k j y) := by
  subst e
  refine ⟨fun k1 j1 h6 h7 hj => ?_, fun j1 hj => ?_⟩
  · unfold upV
    by_cases c : k1 = k ∧ j1 = j
    · rw [if_pos c, if_pos c]
    · rw [if_neg c, if_neg c]; exact h.1 k1 j1 h6 h7 hj
  · rw [upV_ne (Or.inl (fun z => hk.2.2 z.symm))] at hj
    rw [upV_ne (Or.inl (fun z => hk.1 z.symm)), upV_ne (Or.inl (fun z => hk.1 z.symm)), upV_ne (Or.inl (fun z => hk.2.1 z.symm)), upV_ne (Or.inl (fun z => hk.2.1 z.symm))]
    exact h.2 j1 hj
theorem EqW.trL {v u w : BW} (h : EqV v u) (hv : v 8 0 ≤ 200) (g : EqW u w) : EqW v w := by
  have e8 : v 8 0 = u 8 0 := h 8 0 (by decide)
  refine ⟨fun k j h6 h7 hj => (h k j hj).trans (g.1 k j h6 h7 hj), fun j hj => ?_⟩
  obtain ⟨a, b⟩ := g.2 j (by rw [← e8]; exact hj)
  exact ⟨(h 6 j (by show j < 200; omega)).trans a, (h 7 j (by show j < 200; omega)).trans b⟩
theorem EqW.trR {v u w : BW} (h : EqW v u) (hv : v 8 0 ≤ 200) (g : EqV u w) : EqW v w := by
  refine ⟨fun k j h6 h7 hj => (h.1 k j h6 h7 hj).trans (g k j hj), fun j hj => ?_⟩
  obtain ⟨a, b⟩ := h.2 j hj
  exact ⟨a.trans (g 6 j (by show j < 200; omega)), b.trans (g 7 j (by show j < 200; omega))⟩
theorem toV_congrW {T U : TF} {v u : BW} {k : Int} (hT : EqT T U) (h : EqW v u) (hs : 0 ≤ v 0 0 ∧ v 0 0 ≤ 16) (h0 : 0 ≤ k) (h2 : k ≤ 2) : toV T v k = toV U u k := by
  have e0 : v 0 0 = u 0 0 := h.a 0 0 (by decide) (by decide)
  unfold toV toneV
  have hj : ∀ (w : Int), (w = 0 ∨ w = 1) → suI (fun j => T w k (seE (v 0 0) (j : Int) (v 1 j) (v 2 j) (v 3 j) (v 4 j))) (v 0 0).toNat = suI (fun j => U w k (seE (u 0 0) (j : Int) (u 1 j) (u 2 j) (u 3 j) (u 4 j))) (u 0 0).toNat := by
    intro w hw
    rw [← e0]
    refine suI_congr _ (fun j hj => ?_)
    have j16 : j < 16 := by omega
    rw [hT w k _ (by omega) h0 h2, h.a 1 j (by decide) (by show j < 16; omega), h.a 2 j (by decide) (by show j < 16; omega), h.a 3 j (by decide) (by show j < 16; omega), h.a 4 j (by decide) (by show j < 16; omega)]
  rw [hj 0 (Or.inl rfl), hj 1 (Or.inr rfl)]
theorem lostW_congrW {T U : TF} {v u : BW} {sl : Int} (hT : EqT T U) (h : EqW v u) (hs : 0 ≤ v 0 0 ∧ v 0 0 ≤ 16) : lostW T v sl = lostW U u sl := by
  unfold lostW
  exact loV_congr 3 0 (fun j hj => ⟨toV_congrW hT h hs (by omega) (by omega), h.a 5 j (by decide) (by show j < 3; omega)⟩)
theorem trV_congr {t t1 g g1 : _} {sl : Int} : ∀ (f k : Nat), (∀ j : Nat, j < k + f → (t1 : Int → Int) (j : Int) = t (j : Int) ∧ (g1 : Nat → Int) j = g j) → trV t1 g1 sl f k = trV t g sl f k
  | 0, _, _ => rfl
  | f + 1, k, h => by
    have hk := h k (by omega)
    show (if g1 k ≠ 0 ∧ (t1 (k : Int) - g1 k > sl ∨ g1 k - t1 (k : Int) > sl) then false else trV t1 g1 sl f (k + 1)) = (if g k ≠ 0 ∧ (t (k : Int) - g k > sl ∨ g k - t (k : Int) > sl) then false else trV t g sl f (k + 1))
    rw [hk.1, hk.2, trV_congr f (k + 1) (fun j hj => h j (by omega))]
theorem trueW_congrW {T U : TF} {v u : BW} {sl : Int} (hT : EqT T U) (h : EqW v u) (hs : 0 ≤ v 0 0 ∧ v 0 0 ≤ 16) : trueW T v sl = trueW U u sl := by
  unfold trueW
  exact trV_congr 3 0 (fun j hj => ⟨toV_congrW hT h hs (by omega) (by omega), h.a 5 j (by decide) (by show j < 3; omega)⟩)
/-- one more pass is kept -/
theorem EqW.pass {v u : BW} {m n : Nat} {z i d p : Int} (h : EqW v u) (hm : (m : Int) = v 8 0) (hp : p = v 8 0 + 1) : EqW (upV (upV (upV (upV v 1 n z) 6 m i) 7 m d) 8 0 p) (upV (upV (upV (upV u 1 n z) 6 m i) 7 m d) 8 0 p) := by
  refine ⟨fun k j h6 h7 hj => ?_, fun j hj => ?_⟩
  · unfold upV
    by_cases c8 : k = 8 ∧ j = 0
    · rw [if_pos c8, if_pos c8]
    · have n7 : ¬ (k = 7 ∧ j = m) := fun y => h7 y.1
      have n6 : ¬ (k = 6 ∧ j = m) := fun y => h6 y.1
      rw [if_neg c8, if_neg c8, if_neg n7, if_neg n7, if_neg n6, if_neg n6]
      by_cases c1 : k = 1 ∧ j = n
      · rw [if_pos c1, if_pos c1]
      · rw [if_neg c1, if_neg c1]; exact h.1 k j h6 h7 hj
  · rw [upV_at] at hj
    by_cases e : j = m
    · subst e
      refine ⟨?_, ?_⟩
      · rw [upV_ne (Or.inl (by decide)), upV_ne (Or.inl (by decide)), upV_at, upV_ne (Or.inl (by decide)), upV_ne (Or.inl (by decide)), upV_at]
      · rw [upV_ne (Or.inl (by decide)), upV_at, upV_ne (Or.inl (by decide)), upV_at]
    · have g := h.2 j (by omega)
      refine ⟨?_, ?_⟩
      · rw [upV_ne (Or.inl (by decide)), upV_ne (Or.inl (by decide)), upV_ne (Or.inr e), upV_ne (Or.inl (by decide)), upV_ne (Or.inl (by decide)), upV_ne (Or.inl (by decide)), upV_ne (Or.inr e), upV_ne (Or.inl (by decide))]
        exact g.1
      · rw [upV_ne (Or.inl (by decide)), upV_ne (Or.inr e), upV_ne (Or.inl (by decide)), upV_ne (Or.inl (by decide)), upV_ne (Or.inl (by decide)), upV_ne (Or.inr e), upV_ne (Or.inl (by decide)), upV_ne (Or.inl (by decide))]
        exact g.2
theorem paV_congrW {T U : TF} {sl : Int} {v u : BW} {i d : Int} (hT : EqT T U) (h : EqW v u) (hs : ObV v) : EqW (paV T sl v i d) (paV U sl u i d) := by
  have e0 : v 0 0 = u 0 0 := h.a 0 0 (by decide) (by decide)
  have e8 : v 8 0 = u 8 0 := h.a 8 0 (by decide) (by decide)
  have e9 : v 9 0 = u 9 0 := h.a 9 0 (by decide) (by decide)
  unfold paV
  by_cases ci : 0 ≤ i ∧ i < v 0 0
  · have e1 : v 1 i.toNat = u 1 i.toNat := h.a 1 i.toNat (by decide) (by show i.toNat < 16; have := hs.2.1; omega)
    rw [← e0, ← e8, ← e9, ← e1]
    split
    · have h8 := hs.2.2.1
      have hw : EqW (upV (upV (upV (upV v 1 i.toNat (v 1 i.toNat - d)) 6 (v 8 0).toNat i) 7 (v 8 0).toNat d) 8 0 (v 8 0 + 1)) (upV (upV (upV (upV u 1 i.toNat (v 1 i.toNat - d)) 6 (v 8 0).toNat i) 7 (v 8 0).toNat d) 8 0 (v 8 0 + 1)) := h.pass (by omega) rfl
      have hl := lostW_congrW (sl := sl) hT hw (by rw [upV_ne (Or.inl (by decide)), upV_ne (Or.inl (by decide)), upV_ne (Or.inl (by decide)), upV_ne (Or.inl (by decide))]; have := hs; unfold ObV at this; omega)
      dsimp only
      rw [← hl]
      split
      · exact hw.up rfl (by decide)
      · exact hw
    · exact h
  · rw [if_neg (fun z => ci ⟨z.1, z.2.1⟩), if_neg (fun z => ci ⟨z.1, by rw [e0]; exact z.2.1⟩)]
    exact h
theorem paR_congrW {v u : BW} {i d : Int} (h : EqW v u) (hs : ObV v) : paR v i d = paR u i d := by
  have e0 : v 0 0 = u 0 0 := h.a 0 0 (by decide) (by decide)
  have e8 : v 8 0 = u 8 0 := h.a 8 0 (by decide) (by decide)
  unfold paR
  by_cases ci : 0 ≤ i ∧ i < v 0 0
  · have e1 : v 1 i.toNat = u 1 i.toNat := h.a 1 i.toNat (by decide) (by show i.toNat < 16; have := hs.2.1; omega)
    rw [← e0, ← e8, ← e1]
  · rw [if_neg (fun z => ci ⟨z.1, z.2.1⟩), if_neg (fun z => ci ⟨z.1, by rw [e0]; exact z.2.1⟩)]
theorem arV_congrW {T U : TF} {sl am mi : Int} (hT : EqT T U) : ∀ (n : Nat) (s : Int) (v u : BW), EqW v u → ObV v → EqW (arV T sl am mi n s v) (arV U sl am mi n s u)
  | 0, _, _, _, h, _ => h
  | n + 1, s, v, u, h, o => arV_congrW hT n (s + 1) _ _ (paV_congrW hT h o) (paV_ok o)
theorem liV_congrW {T U : TF} {sl wd i j j1 am : Int} {v u : BW} (hT : EqT T U) (hj : wd ≠ 6 → wd ≠ 4 → j = j1) (h : EqW v u) (hs : ObV v) : EqW (liV T sl wd i j am v) (liV U sl wd i j1 am u) := by
  have e0 : v 0 0 = u 0 0 := h.a 0 0 (by decide) (by decide)
  unfold liV
  rw [← e0]
  by_cases c6 : wd = 6
  · rw [if_pos c6, if_pos c6]
    by_cases ci : 0 ≤ i ∧ i < v 0 0
    · rw [if_pos ci, if_pos ci]; exact h.up rfl (by decide)
    · rw [if_neg ci, if_neg ci]; exact h
  · rw [if_neg c6, if_neg c6]
    by_cases c4 : wd = 4
    · rw [if_pos c4, if_pos c4]; exact paV_congrW hT h hs
    · rw [if_neg c4, if_neg c4, ← hj c6 c4]; exact arV_congrW hT _ _ _ _ h hs
theorem joV_congrW {T U : TF} {sl : Int} {wd f1 f2 f3 wd1 f11 f21 f31 : Nat → Int} {hw hw1 : Nat → Bool} {fw fw1 : Nat → EF} (hT : EqT T U) : ∀ (n l : Nat) (v u : BW), (∀ j, l ≤ j → j < l + n → wd j = wd1 j ∧ f1 j = f11 j ∧ (wd j ≠ 6 → wd j ≠ 4 → f2 j = f21 j) ∧ f3 j = f31 j ∧ hw j = hw1 j ∧ (hw j = true → fw j = fw1 j)) → EqW v u → ObV v → EqW (joV T sl wd f1 f2 f3 hw fw n l v) (joV U sl wd1 f11 f21 f31 hw1 fw1 n l u)
  | 0, _, _, _, _, h, _ => h
  | n + 1, l, v, u, hd, h, o => by
    have d := hd l (Nat.le_refl _) (by omega)
    have e8 : v 8 0 = u 8 0 := h.a 8 0 (by decide) (by decide)
    have s0 : 0 ≤ v 0 0 ∧ v 0 0 ≤ 16 := by have := o; unfold ObV at this; omega
    have ec : (hw l = false ∨ fw l (sbE (toV T v 0) (toV T v 1) (toV T v 2) (v 8 0)) ≠ 0) ↔ (hw1 l = false ∨ fw1 l (sbE (toV U u 0) (toV U u 1) (toV U u 2) (u 8 0)) ≠ 0) := by
      rw [← d.2.2.2.2.1, ← toV_congrW hT h s0 (k := 0) (by decide) (by decide), ← toV_congrW hT h s0 (k := 1) (by decide) (by decide), ← toV_congrW hT h s0 (k := 2) (by decide) (by decide), ← e8]
      cases hh : hw l with
      | false => exact ⟨fun _ => Or.inl rfl, fun _ => Or.inl rfl⟩
      | true => rw [d.2.2.2.2.2 hh]
    show EqW (joV T sl wd f1 f2 f3 hw fw n (l + 1) _) (joV U sl wd1 f11 f21 f31 hw1 fw1 n (l + 1) _)
    by_cases c : hw l = false ∨ fw l (sbE (toV T v 0) (toV T v 1) (toV T v 2) (v 8 0)) ≠ 0
    · rw [if_pos c, if_pos (ec.mp c), ← d.1, ← d.2.1, ← d.2.2.2.1]
      exact joV_congrW hT n (l + 1) _ _ (fun j h1 h2 => hd j (by omega) (by omega)) (liV_congrW hT d.2.2.1 h o) (liV_ok o)
    · rw [if_neg c, if_neg (fun z => c (ec.mpr z))]
      exact joV_congrW hT n (l + 1) _ _ (fun j h1 h2 => hd j (by omega) (by omega)) h o
/-! what slice, wax, goal, bar do -/
def slK (v : BW) (i t g h : Int) : Prop := (0 ≤ i ∧ i < v 0 0) ∧ v 8 0 ≤ 0 ∧ (1 ≤ t ∧ t ≤ 99) ∧ (1 ≤ g ∧ g ≤ 9) ∧ (1 ≤ h ∧ h ≤ 9)
def wxK (v : BW) (i w : Int) : Prop := (0 ≤ i ∧ i < v 0 0) ∧ 0 ≤ w ∧ w ≤ 99
def glK (k g : Int) : Prop := (0 ≤ k ∧ k ≤ 2) ∧ 0 ≤ g ∧ g ≤ 999999
def slV (v : BW) (i t g h : Int) : BW := upV (upV (upV v 1 i.toNat t) 2 i.toNat g) 3 i.toNat h
def wxV (v : BW) (i w : Int) : BW := upV v 4 i.toNat w
def glV (v : BW) (k g : Int) : BW := upV v 5 k.toNat g
theorem slK_congr {v u : BW} {i t g h : Int} (e : EqW v u) : slK v i t g h ↔ slK u i t g h := by
  have e0 : v 0 0 = u 0 0 := e.a 0 0 (by decide) (by decide)
  have e8 : v 8 0 = u 8 0 := e.a 8 0 (by decide) (by decide)
  unfold slK
  rw [e0, e8]
theorem wxK_congr {v u : BW} {i w : Int} (e : EqW v u) : wxK v i w ↔ wxK u i w := by
  have e0 : v 0 0 = u 0 0 := e.a 0 0 (by decide) (by decide)
  unfold wxK
  rw [e0]
theorem slV_congr {v u : BW} {i t g h : Int} (e : EqW v u) : EqW (slV v i t g h) (slV u i t g h) := ((e.up rfl (by decide)).up rfl (by decide)).up rfl (by decide)
theorem wxV_congr {v u : BW} {i w : Int} (e : EqW v u) : EqW (wxV v i w) (wxV u i w) := e.up rfl (by decide)
theorem glV_congr {v u : BW} {k g : Int} (e : EqW v u) : EqW (glV v k g) (glV u k g) := e.up rfl (by decide)
/-- a new bar's rows -/
def NewV (v : BW) (n : Int) : Prop := v 0 0 = n ∧ (∀ j, j < 16 → v 1 j = 20 ∧ v 2 j = 5 ∧ v 3 j = 5 ∧ v 4 j = 0) ∧ (∀ j, j < 3 → v 5 j = 0) ∧ v 8 0 = 0 ∧ v 9 0 = 0
theorem NewV.eq {v u : BW} {n : Int} (h : NewV v n) (g : NewV u n) : EqW v u := by
  obtain ⟨h0, h1, h5, h8, h9⟩ := h
  obtain ⟨g0, g1, g5, g8, g9⟩ := g
  refine ⟨fun k j h6 h7 hj => ?_, fun j hj => by omega⟩
  by_cases c : k = 1 ∨ k = 2 ∨ k = 3 ∨ k = 4
  · have hj : j < 16 := by unfold wdV at hj; rw [if_pos c] at hj; exact hj
    obtain ⟨a1, a2, a3, a4⟩ := h1 j hj
    obtain ⟨b1, b2, b3, b4⟩ := g1 j hj
    rcases c with rfl | rfl | rfl | rfl
    · rw [a1, b1]
    · rw [a2, b2]
    · rw [a3, b3]
    · rw [a4, b4]
  · by_cases c5 : k = 5
    · subst c5
      have hj : j < 3 := hj
      rw [h5 j hj, g5 j hj]
    · by_cases c0 : k = 0 ∨ k = 8 ∨ k = 9
      · have hj : j < 1 := by unfold wdV at hj; rw [if_neg c, if_neg c5, if_neg (by omega), if_pos c0] at hj; exact hj
        have e : j = 0 := by omega
        subst e
        rcases c0 with rfl | rfl | rfl
        · rw [h0, g0]
        · rw [h8, g8]
        · rw [h9, g9]
      · exfalso
        unfold wdV at hj
        rw [if_neg c, if_neg c5, if_neg (by omega), if_neg c0] at hj
        omega
/-- a world's references are as they were -/
def NWF (K : KE) (H1 H : Heap) (w : Nat) : Prop := ∀ k : Nat, k = 0 ∨ k = 2 ∨ k = 3 ∨ k = 8 ∨ k = 9 ∨ k = 11 → fR H1 w (K.1.2 8 k) = fR H w (K.1.2 8 k)
theorem NWF.rf {K : KE} {H : Heap} {w : Nat} : NWF K H H w := fun _ _ => rfl
theorem NWF.st {K : KE} {H2 H1 H : Heap} {w : Nat} (h : NWF K H1 H w) (e : ∀ k : Nat, k = 0 ∨ k = 2 ∨ k = 3 ∨ k = 8 ∨ k = 9 ∨ k = 11 → fR H2 w (K.1.2 8 k) = fR H1 w (K.1.2 8 k)) : NWF K H2 H w := fun k hk => (e k hk).trans (h k hk)
