/-! ===== a bar as rows of numbers: 0 size, 1 thick, 2 grain, 3 heavy, 4 wax, 5 goals, 6 pass' slice, 7 pass' depth, 8 passes, 9 lost by ===== -/
abbrev BW : Type := Nat → Nat → Int
def upV (v : BW) (k j : Nat) (x : Int) : BW := fun k1 j1 => if k1 = k ∧ j1 = j then x else v k1 j1
theorem upV_at {v : BW} {k j : Nat} {x : Int} : upV v k j x k j = x := if_pos ⟨rfl, rfl⟩
theorem upV_ne {v : BW} {k j k1 j1 : Nat} {x : Int} (h : k1 ≠ k ∨ j1 ≠ j) : upV v k j x k1 j1 = v k1 j1 := if_neg (fun z => h.elim (fun a => a z.1) (fun a => a z.2))
/-- how many places a row has -/
def wdV (k : Nat) : Nat := if k = 1 ∨ k = 2 ∨ k = 3 ∨ k = 4 then 16 else if k = 5 then 3 else if k = 6 ∨ k = 7 then 200 else if k = 0 ∨ k = 8 ∨ k = 9 then 1 else 0
/-- alike, as far as the rows go -/
def EqV (v u : BW) : Prop := ∀ k j : Nat, j < wdV k → v k j = u k j
theorem EqV.rf {v : BW} : EqV v v := fun _ _ _ => rfl
theorem EqV.tr {v u w : BW} (h : EqV v u) (g : EqV u w) : EqV v w := fun k j hj => (h k j hj).trans (g k j hj)
theorem EqV.up {v u : BW} {k j : Nat} {x y : Int} (h : EqV v u) (e : x = y) : EqV (upV v k j x) (upV u k j y) := by
  subst e
  intro k1 j1 hj
  unfold upV
  by_cases c : k1 = k ∧ j1 = j
  · rw [if_pos c, if_pos c]
  · rw [if_neg c, if_neg c]; exact h k1 j1 hj
def toV (T : TF) (v : BW) : Int → Int := fun k => toneV T (v 0 0) (v 1) (v 2) (v 3) (v 4) k
def lostW (T : TF) (v : BW) (sl : Int) : Bool := loV (toV T v) (v 5) sl 3 0
def trueW (T : TF) (v : BW) (sl : Int) : Bool := trV (toV T v) (v 5) sl 3 0
/-- laws that tell alike of laws' words for tones 0 .. 2 -/
def EqT (T U : TF) : Prop := ∀ w k e, (w = 0 ∨ w = 1 ∨ w = 2) → 0 ≤ k → k ≤ 2 → T w k e = U w k e
theorem suI_congr {f g : Nat → Int} : ∀ n : Nat, (∀ j, j < n → f j = g j) → suI f n = suI g n
  | 0, _ => rfl
  | n + 1, h => by
    show suI f n + f n = suI g n + g n
    rw [suI_congr n (fun j hj => h j (by omega)), h n (by omega)]
theorem toV_congr {T U : TF} {v u : BW} {k : Int} (hT : EqT T U) (h : EqV v u) (hs : 0 ≤ v 0 0 ∧ v 0 0 ≤ 16) (h0 : 0 ≤ k) (h2 : k ≤ 2) : toV T v k = toV U u k := by
  have e0 : v 0 0 = u 0 0 := h 0 0 (by decide)
  unfold toV toneV
  have hj : ∀ (w : Int), (w = 0 ∨ w = 1) → suI (fun j => T w k (seE (v 0 0) (j : Int) (v 1 j) (v 2 j) (v 3 j) (v 4 j))) (v 0 0).toNat = suI (fun j => U w k (seE (u 0 0) (j : Int) (u 1 j) (u 2 j) (u 3 j) (u 4 j))) (u 0 0).toNat := by
    intro w hw
    rw [← e0]
    refine suI_congr _ (fun j hj => ?_)
    have j16 : j < 16 := by omega
    rw [hT w k _ (by omega) h0 h2, h 1 j (by show j < 16; omega), h 2 j (by show j < 16; omega), h 3 j (by show j < 16; omega), h 4 j (by show j < 16; omega)]
  rw [hj 0 (Or.inl rfl), hj 1 (Or.inr rfl)]
theorem lostW_congr {T U : TF} {v u : BW} {sl : Int} (hT : EqT T U) (h : EqV v u) (hs : 0 ≤ v 0 0 ∧ v 0 0 ≤ 16) : lostW T v sl = lostW U u sl := by
  unfold lostW
  exact loV_congr 3 0 (fun j hj => ⟨toV_congr hT h hs (by omega) (by omega), h 5 j (by show j < 3; omega)⟩)
/-- a pass -/
def paV (T : TF) (sl : Int) (v : BW) (i d : Int) : BW :=
  if 0 ≤ i ∧ i < v 0 0 ∧ 1 ≤ d ∧ d ≤ 9 ∧ d < v 1 i.toNat ∧ v 8 0 < 200 then
    (let w := upV (upV (upV (upV v 1 i.toNat (v 1 i.toNat - d)) 6 (v 8 0).toNat i) 7 (v 8 0).toNat d) 8 0 (v 8 0 + 1)
     if v 9 0 = 0 ∧ lostW T w sl = true then upV w 9 0 (v 8 0 + 1) else w)
  else v
/-- what may stand in a bar -/
def ObV (v : BW) : Prop := 3 ≤ v 0 0 ∧ v 0 0 ≤ 16 ∧ 0 ≤ v 8 0 ∧ v 8 0 ≤ 200
theorem paV_ok {T : TF} {sl : Int} {v : BW} {i d : Int} (h : ObV v) : ObV (paV T sl v i d) := by
  unfold paV
  split
  · rename_i c
    dsimp only
    split
    · refine ⟨?_, ?_, ?_, ?_⟩ <;> simp only [upV] <;> simp <;> first | exact h.1 | exact h.2.1 | (have := h.2.2; omega)
    · refine ⟨?_, ?_, ?_, ?_⟩ <;> simp only [upV] <;> simp <;> first | exact h.1 | exact h.2.1 | (have := h.2.2; omega)
  · exact h
theorem paV_congr {T U : TF} {sl : Int} {v u : BW} {i d : Int} (hT : EqT T U) (h : EqV v u) (hs : ObV v) : EqV (paV T sl v i d) (paV U sl u i d) := by
  have e0 : v 0 0 = u 0 0 := h 0 0 (by decide)
  have e8 : v 8 0 = u 8 0 := h 8 0 (by decide)
  have e9 : v 9 0 = u 9 0 := h 9 0 (by decide)
  unfold paV
  by_cases ci : 0 ≤ i ∧ i < v 0 0
  · have e1 : v 1 i.toNat = u 1 i.toNat := h 1 i.toNat (by show i.toNat < 16; have := hs.2.1; omega)
    rw [← e0, ← e8, ← e9, ← e1]
    split
    · have hw : EqV (upV (upV (upV (upV v 1 i.toNat (v 1 i.toNat - d)) 6 (v 8 0).toNat i) 7 (v 8 0).toNat d) 8 0 (v 8 0 + 1)) (upV (upV (upV (upV u 1 i.toNat (v 1 i.toNat - d)) 6 (v 8 0).toNat i) 7 (v 8 0).toNat d) 8 0 (v 8 0 + 1)) := (((h.up rfl).up rfl).up rfl).up rfl
      have hl := lostW_congr (sl := sl) hT hw (by rw [upV_ne (Or.inl (by decide)), upV_ne (Or.inl (by decide)), upV_ne (Or.inl (by decide)), upV_ne (Or.inl (by decide))]; have := hs; unfold ObV at this; omega)
      dsimp only
      rw [← hl]
      split
      · exact hw.up rfl
      · exact hw
    · exact h
  · rw [if_neg (fun z => ci ⟨z.1, z.2.1⟩), if_neg (fun z => ci ⟨z.1, by rw [e0]; exact z.2.1⟩)]
    exact h
/-- an arc's passes, from s on, n of them -/
def arV (T : TF) (sl : Int) (am mi : Int) : Nat → Int → BW → BW
  | 0, _, v => v
  | n + 1, s, v => arV T sl am mi n (s + 1) (paV T sl v s (am - (if s - mi < 0 then mi - s else s - mi)))
theorem arV_ok {T : TF} {sl am mi : Int} : ∀ (n : Nat) (s : Int) (v : BW), ObV v → ObV (arV T sl am mi n s v)
  | 0, _, _, h => h
  | n + 1, s, v, h => arV_ok n (s + 1) _ (paV_ok h)
theorem arV_congr {T U : TF} {sl am mi : Int} (hT : EqT T U) : ∀ (n : Nat) (s : Int) (v u : BW), EqV v u → ObV v → EqV (arV T sl am mi n s v) (arV U sl am mi n s u)
  | 0, _, _, _, h, _ => h
  | n + 1, s, v, u, h, o => arV_congr hT n (s + 1) _ _ (paV_congr hT h o) (paV_ok o)
/-- a job's line: its word (4 shave, 5 arc, 6 wax) and numbers -/
def liV (T : TF) (sl : Int) (wd i j am : Int) (v : BW) : BW :=
  if wd = 6 then (if 0 ≤ i ∧ i < v 0 0 then upV v 4 i.toNat am else v)
  else if wd = 4 then paV T sl v i am
  else arV T sl am ((i + j) / 2) (min (j + 1) (v 0 0) - i).toNat i v
theorem liV_ok {T : TF} {sl wd i j am : Int} {v : BW} (h : ObV v) : ObV (liV T sl wd i j am v) := by
  unfold liV
  split
  · split
    · refine ⟨?_, ?_, ?_, ?_⟩ <;> rw [upV_ne (Or.inl (by decide))]
      · exact h.1
      · exact h.2.1
      · exact h.2.2.1
      · exact h.2.2.2
    · exact h
  · split
    · exact paV_ok h
    · exact arV_ok _ _ _ h
theorem liV_congr {T U : TF} {sl wd i j j1 am : Int} {v u : BW} (hT : EqT T U) (hj : wd ≠ 6 → wd ≠ 4 → j = j1) (h : EqV v u) (hs : ObV v) : EqV (liV T sl wd i j am v) (liV U sl wd i j1 am u) := by
  have e0 : v 0 0 = u 0 0 := h 0 0 (by decide)
  unfold liV
  rw [← e0]
  by_cases c6 : wd = 6
  · rw [if_pos c6, if_pos c6]
    by_cases ci : 0 ≤ i ∧ i < v 0 0
    · rw [if_pos ci, if_pos ci]; exact h.up rfl
    · rw [if_neg ci, if_neg ci]; exact h
  · rw [if_neg c6, if_neg c6]
    by_cases c4 : wd = 4
    · rw [if_pos c4, if_pos c4]; exact paV_congr hT h hs
    · rw [if_neg c4, if_neg c4, ← hj c6 c4]; exact arV_congr hT _ _ _ _ h hs
/-- a job's lines: hw which have a condition, fw what the conditions come to -/
def joV (T : TF) (sl : Int) (wd f1 f2 f3 : Nat → Int) (hw : Nat → Bool) (fw : Nat → EF) : Nat → Nat → BW → BW
  | 0, _, v => v
  | n + 1, l, v => joV T sl wd f1 f2 f3 hw fw n (l + 1) (if hw l = false ∨ fw l (sbE (toV T v 0) (toV T v 1) (toV T v 2) (v 8 0)) ≠ 0 then liV T sl (wd l) (f1 l) (f2 l) (f3 l) v else v)
theorem joV_congr {T U : TF} {sl : Int} {wd f1 f2 f3 wd1 f11 f21 f31 : Nat → Int} {hw hw1 : Nat → Bool} {fw fw1 : Nat → EF} (hT : EqT T U) : ∀ (n l : Nat) (v u : BW), (∀ j, l ≤ j → j < l + n → wd j = wd1 j ∧ f1 j = f11 j ∧ (wd j ≠ 6 → wd j ≠ 4 → f2 j = f21 j) ∧ f3 j = f31 j ∧ hw j = hw1 j ∧ (hw j = true → fw j = fw1 j)) → EqV v u → ObV v → EqV (joV T sl wd f1 f2 f3 hw fw n l v) (joV U sl wd1 f11 f21 f31 hw1 fw1 n l u)
  | 0, _, _, _, _, h, _ => h
  | n + 1, l, v, u, hd, h, o => by
    have d := hd l (Nat.le_refl _) (by omega)
    have e8 : v 8 0 = u 8 0 := h 8 0 (by decide)
    have s0 : 0 ≤ v 0 0 ∧ v 0 0 ≤ 16 := by have := o; unfold ObV at this; omega
    have ec : (hw l = false ∨ fw l (sbE (toV T v 0) (toV T v 1) (toV T v 2) (v 8 0)) ≠ 0) ↔ (hw1 l = false ∨ fw1 l (sbE (toV U u 0) (toV U u 1) (toV U u 2) (u 8 0)) ≠ 0) := by
      rw [← d.2.2.2.2.1, ← toV_congr hT h s0 (k := 0) (by decide) (by decide), ← toV_congr hT h s0 (k := 1) (by decide) (by decide), ← toV_congr hT h s0 (k := 2) (by decide) (by decide), ← e8]
      cases hh : hw l with
      | false => exact ⟨fun _ => Or.inl rfl, fun _ => Or.inl rfl⟩
      | true => rw [d.2.2.2.2.2 hh]
    show EqV (joV T sl wd f1 f2 f3 hw fw n (l + 1) _) (joV U sl wd1 f11 f21 f31 hw1 fw1 n (l + 1) _)
    by_cases c : hw l = false ∨ fw l (sbE (toV T v 0) (toV T v 1) (toV T v 2) (v 8 0)) ≠ 0
    · rw [if_pos c, if_pos (ec.mp c), ← d.1, ← d.2.1, ← d.2.2.2.1]
      exact joV_congr hT n (l + 1) _ _ (fun j h1 h2 => hd j (by omega) (by omega)) (liV_congr hT d.2.2.1 h o) (liV_ok o)
    · rw [if_neg c, if_neg (fun z => c (ec.mpr z))]
      exact joV_congr hT n (l + 1) _ _ (fun j h1 h2 => hd j (by omega) (by omega)) h o
theorem joV_y {T : TF} {sl : Int} {wd f1 f2 f3 : Nat → Int} {hw : Nat → Bool} {fw : Nat → EF} {n m l l1 : Nat} {v : BW} (hn : n = m + 1) (hl : l1 = l + 1) (h : hw l = false ∨ fw l (sbE (toV T v 0) (toV T v 1) (toV T v 2) (v 8 0)) ≠ 0) : joV T sl wd f1 f2 f3 hw fw n l v = joV T sl wd f1 f2 f3 hw fw m l1 (liV T sl (wd l) (f1 l) (f2 l) (f3 l) v) := by
  subst hn; subst hl
  show joV T sl wd f1 f2 f3 hw fw m (l + 1) _ = _
  rw [if_pos h]
theorem joV_n {T : TF} {sl : Int} {wd f1 f2 f3 : Nat → Int} {hw : Nat → Bool} {fw : Nat → EF} {n m l l1 : Nat} {v : BW} (hn : n = m + 1) (hl : l1 = l + 1) (h : ¬ (hw l = false ∨ fw l (sbE (toV T v 0) (toV T v 1) (toV T v 2) (v 8 0)) ≠ 0)) : joV T sl wd f1 f2 f3 hw fw n l v = joV T sl wd f1 f2 f3 hw fw m l1 v := by
  subst hn; subst hl
  show joV T sl wd f1 f2 f3 hw fw m (l + 1) _ = _
  rw [if_neg h]
theorem joV_0 {T : TF} {sl : Int} {wd f1 f2 f3 : Nat → Int} {hw : Nat → Bool} {fw : Nat → EF} {n l : Nat} {v : BW} (hn : n = 0) : joV T sl wd f1 f2 f3 hw fw n l v = v := by
  subst hn
  rfl
theorem joV_ok {T : TF} {sl : Int} {wd f1 f2 f3 : Nat → Int} {hw : Nat → Bool} {fw : Nat → EF} : ∀ (n l : Nat) (v : BW), ObV v → ObV (joV T sl wd f1 f2 f3 hw fw n l v)
  | 0, _, _, h => h
  | n + 1, l, v, h => by
    show ObV (joV T sl wd f1 f2 f3 hw fw n (l + 1) _)
    split
    · exact joV_ok n (l + 1) _ (liV_ok h)
    · exact joV_ok n (l + 1) _ h
