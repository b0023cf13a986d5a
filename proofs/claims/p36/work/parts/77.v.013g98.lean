/-! ===== a bar as rows of numbers: 0 size, 1 thick, 2 grain, 3 heavy, 4 wax, 5 goals, 6 pass' slice, 7 pass' depth, 8 passes, 9 lost by ===== -/
abbrev BW : Type := Nat → Nat → Int
def upV (v : BW) (k j : Nat) (x : Int) : BW := fun k1 j1 => if k1 = k ∧ j1 = j then x else v k1 j1
theorem upV_at {v : BW} {k j : Nat} {x : Int} : upV v k j x k j = x := if_pos ⟨rfl, rfl⟩
theorem upV_ne {v : BW} {k j k1 j1 : Nat} {x : Int} (h : k1 ≠ k ∨ j1 ≠ j) : upV v k j x k1 j1 = v k1 j1 := if_neg (fun z => h.elim (fun a => a z.1) (fun a => a z.2))
/-- how many places a row has -/
def wdV (k : Nat) : Nat := if k = 1 ∨ k = 2 ∨ k = 3 ∨ k = 4 then 16 else if k = 5 then 3 else if k = 6 ∨ k = 7 then 200 else if k = 0 ∨ k = 8 ∨ k = 9 then 1 else 0
/-- alike, as far as the rows go -/
def EqV (v u : BW) : Prop := ∀ k j : Nat, j < wdV k → v k j = u k j
theorem EqV.rf {v : BW} : EqV v v := fun _ _ _ => rfl
theorem EqV.tr {v u w : BW} (h : EqV v u) (g : EqV u w) : EqV v w := fun k j hj => (h k j hj).trans (g k j hj)
theorem EqV.up {v u : BW} {k j : Nat} {x y : Int} (h : EqV v u) (e : x = y) : EqV (upV v k j x) (upV u k j y) := by
  subst e
  intro k1 j1 hj
  unfold upV
  by_cases c : k1 = k ∧ j1 = j
  · rw [if_pos c, if_pos c]
  · rw [if_neg c, if_neg c]; exact h k1 j1 hj
def toV (T : TF) (v : BW) : Int → Int := fun k => toneV T (v 0 0) (v 1) (v 2) (v 3) (v 4) k
def lostW (T : TF) (v : BW) (sl : Int) : Bool := loV (toV T v) (v 5) sl 3 0
def trueW (T : TF) (v : BW) (sl : Int) : Bool := trV (toV T v) (v 5) sl 3 0
/-- laws that tell alike of laws' words for tones 0 .. 2 -/
def EqT (T U : TF) : Prop := ∀ w k e, (w = 0 ∨ w = 1 ∨ w = 2) → 0 ≤ k → k ≤ 2 → T w k e = U w k e
theorem suI_congr {f g : Nat → Int} : ∀ n : Nat, (∀ j, j < n → f j = g j) → suI f n = suI g n
  | 0, _ => rfl
  | n + 1, h => by
    show suI f n + f n = suI g n + g n
    rw [suI_congr n (fun j hj => h j (by omega)), h n (by omega)]
/-- a pass -/
def paV (T : TF) (sl : Int) (v : BW) (i d : Int) : BW :=
  if 0 ≤ i ∧ i < v 0 0 ∧ 1 ≤ d ∧ d ≤ 9 ∧ d < v 1 i.toNat ∧ v 8 0 < 200 then
    (let w := upV (upV (upV (upV v 1 i.toNat (v 1 i.toNat - d)) 6 (v 8 0).toNat i) 7 (v 8 0).toNat d) 8 0 (v 8 0 + 1)
     if v 9 0 = 0 ∧ lostW T w sl = true then upV w 9 0 (v 8 0 + 1) else w)
  else v
/-- what may stand in a bar -/
def ObV (v : BW) : Prop := 3 ≤ v 0 0 ∧ v 0 0 ≤ 16 ∧ 0 ≤ v 8 0 ∧ v 8 0 ≤ 200
theorem paV_ok {T : TF} {sl : Int} {v : BW} {i d : Int} (h : ObV v) : ObV (paV T sl v i d) := by
  unfold paV
  split
  · rename_i c
    dsimp only
    split
    · refine ⟨?_, ?_, ?_, ?_⟩ <;> simp only [upV] <;> simp <;> first | exact h.1 | exact h.2.1 | (have := h.2.2; omega)
    · refine ⟨?_, ?_, ?_, ?_⟩ <;> simp only [upV] <;> simp <;> first | exact h.1 | exact h.2.1 | (have := h.2.2; omega)
  · exact h
/-- an arc's passes, from s on, n of them -/
def arV (T : TF) (sl : Int) (am mi : Int) : Nat → Int → BW → BW
  | 0, _, v => v
  | n + 1, s, v => arV T sl am mi n (s + 1) (paV T sl v s (am - (if s - mi < 0 then mi - s else s - mi)))
theorem arV_ok {T : TF} {sl am mi : Int} : ∀ (n : Nat) (s : Int) (v : BW), ObV v → ObV (arV T sl am mi n s v)
  | 0, _, _, h => h
  | n + 1, s, v, h => arV_ok n (s + 1) _ (paV_ok h)
/-- a job's line: its word (4 shave, 5 arc, 6 wax) and numbers -/
def liV (T : TF) (sl : Int) (wd i j am : Int) (v : BW) : BW :=
  if wd = 6 then (if 0 ≤ i ∧ i < v 0 0 then upV v 4 i.toNat am else v)
  else if wd = 4 then paV T sl v i am
  else arV T sl am ((i + j) / 2) (min (j + 1) (v 0 0) - i).toNat i v
theorem liV_ok {T : TF} {sl wd i j am : Int} {v : BW} (h : ObV v) : ObV (liV T sl wd i j am v) := by
  unfold liV
  split
  · split
    · refine ⟨?_, ?_, ?_, ?_⟩ <;> rw [upV_ne (Or.inl (by decide))]
      · exact h.1
      · exact h.2.1
      · exact h.2.2.1
      · exact h.2.2.2
    · exact h
  · split
    · exact paV_ok h
    · exact arV_ok _ _ _ h
/-- a job's lines: hw which have a condition, fw what the conditions come to -/
def joV (T : TF) (sl : Int) (wd f1 f2 f3 : Nat → Int) (hw : Nat → Bool) (fw : Nat → EF) : Nat → Nat → BW → BW
  | 0, _, v => v
  | n + 1, l, v => joV T sl wd f1 f2 f3 hw fw n (l + 1) (if hw l = false ∨ fw l (sbE (toV T v 0) (toV T v 1) (toV T v 2) (v 8 0)) ≠ 0 then liV T sl (wd l) (f1 l) (f2 l) (f3 l) v else v)
theorem joV_y {T : TF} {sl : Int} {wd f1 f2 f3 : Nat → Int} {hw : Nat → Bool} {fw : Nat → EF} {n m l l1 : Nat} {v : BW} (hn : n = m + 1) (hl : l1 = l + 1) (h : hw l = false ∨ fw l (sbE (toV T v 0) (toV T v 1) (toV T v 2) (v 8 0)) ≠ 0) : joV T sl wd f1 f2 f3 hw fw n l v = joV T sl wd f1 f2 f3 hw fw m l1 (liV T sl (wd l) (f1 l) (f2 l) (f3 l) v) := by
  subst hn; subst hl
  show joV T sl wd f1 f2 f3 hw fw m (l + 1) _ = _
  rw [if_pos h]
theorem joV_n {T : TF} {sl : Int} {wd f1 f2 f3 : Nat → Int} {hw : Nat → Bool} {fw : Nat → EF} {n m l l1 : Nat} {v : BW} (hn : n = m + 1) (hl : l1 = l + 1) (h : ¬ (hw l = false ∨ fw l (sbE (toV T v 0) (toV T v 1) (toV T v 2) (v 8 0)) ≠ 0)) : joV T sl wd f1 f2 f3 hw fw n l v = joV T sl wd f1 f2 f3 hw fw m l1 v := by
  subst hn; subst hl
  show joV T sl wd f1 f2 f3 hw fw m (l + 1) _ = _
  rw [if_neg h]
theorem joV_0 {T : TF} {sl : Int} {wd f1 f2 f3 : Nat → Int} {hw : Nat → Bool} {fw : Nat → EF} {n l : Nat} {v : BW} (hn : n = 0) : joV T sl wd f1 f2 f3 hw fw n l v = v := by
  subst hn
  rfl
theorem joV_ok {T : TF} {sl : Int} {wd f1 f2 f3 : Nat → Int} {hw : Nat → Bool} {fw : Nat → EF} : ∀ (n l : Nat) (v : BW), ObV v → ObV (joV T sl wd f1 f2 f3 hw fw n l v)
  | 0, _, _, h => h
  | n + 1, l, v, h => by
    show ObV (joV T sl wd f1 f2 f3 hw fw n (l + 1) _)
    split
    · exact joV_ok n (l + 1) _ (liV_ok h)
    · exact joV_ok n (l + 1) _ h
