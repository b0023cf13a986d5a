/-! ===== what sums and conditions come to ===== -/
abbrev EF : Type := (Nat → Int32) → Int32
def zF : EF := fun _ => 0
/-- the place of a word of the class among what is asked -/
def uIx (k : Int) : Nat := if k = 6 then 7 else if k ≤ 17 then (k - 11).toNat else (k - 10).toNat
def unF (kk vv : Nat → Int) (i : Nat) : EF := fun u => if kk i = 24 then Int32.ofInt (vv i) else u (uIx (kk i))
/-- two joined by a sign or a word -/
def jnF (sg : Int) (a b : Int32) : Int32 := if sg = 42 then a * b else if sg = 47 then a / b else if sg = 43 then a + b else if sg = 45 then a - b else if sg = 60 then (if a.toInt < b.toInt then 1 else 0) else if sg = 61 then (if a.toInt = b.toInt then 1 else 0) else if sg = 62 then (if b.toInt < a.toInt then 1 else 0) else if sg = 9 then a &&& b else if sg = 8 then a ||| b else b
def cbF (sg : Int) (a b : EF) : EF := fun u => jnF sg (a u) (b u)
def ntF (f : EF) : EF := fun u => 1 - f u
/-- a term -/
def tmF (kk vv : Nat → Int) : Nat → Int → EF → Nat → EF
  | 0, _, a, _ => a
  | 1, _, a, _ => a
  | f + 2, sg, a, i => if kk (i + 1) = 42 ∨ kk (i + 1) = 47 then tmF kk vv f (kk (i + 1)) (cbF sg a (unF kk vv i)) (i + 2) else cbF sg a (unF kk vv i)
def tmG (kk vv : Nat → Int) (sg : Int) (a : EF) (i : Nat) : EF := tmF kk vv (1000 - i) sg a i
theorem tmG_eq {kk vv : Nat → Int} {sg : Int} {a : EF} {i : Nat} (h : i ≤ 900) : tmG kk vv sg a i = if kk (i + 1) = 42 ∨ kk (i + 1) = 47 then tmG kk vv (kk (i + 1)) (cbF sg a (unF kk vv i)) (i + 2) else cbF sg a (unF kk vv i) := by
  unfold tmG
  rw [show 1000 - i = (1000 - (i + 2)) + 2 by omega]
  rfl
theorem tmG_go {kk vv : Nat → Int} {sg : Int} {a : EF} {i j : Nat} {s : Int} (h : i ≤ 900) (hs : kk (i + 1) = s) (hc : s = 42 ∨ s = 47) (hj : j = i + 2) : tmG kk vv sg a i = tmG kk vv s (cbF sg a (unF kk vv i)) j := by
  subst hj; subst hs
  rw [tmG_eq h, if_pos hc]
theorem tmG_end {kk vv : Nat → Int} {sg : Int} {a : EF} {i : Nat} (h : i ≤ 900) (hc : kk (i + 1) ≠ 42 ∧ kk (i + 1) ≠ 47) : tmG kk vv sg a i = cbF sg a (unF kk vv i) := by
  rw [tmG_eq h, if_neg (by omega)]
/-- one p, and again while c says so of what stands behind: what it comes to -/
def lpF (p : Nat → Option Nat) (c : Nat → Bool) (kk : Nat → Int) (g : Nat → EF) : Nat → Int → EF → Nat → EF
  | 0, _, a, _ => a
  | f + 1, sg, a, i => match p i with
    | none => a
    | some j => if c j = true then lpF p c kk g f (kk j) (cbF sg a (g i)) (j + 1) else cbF sg a (g i)
def lpG (p : Nat → Option Nat) (c : Nat → Bool) (kk : Nat → Int) (g : Nat → EF) (sg : Int) (a : EF) (i : Nat) : EF := lpF p c kk g (1000 - i) sg a i
theorem lpF_fuel {p : Nat → Option Nat} {c : Nat → Bool} {kk : Nat → Int} {g : Nat → EF} (hp : GP p) : ∀ (f h i : Nat) (sg : Int) (a : EF), 1000 - i ≤ f → 1000 - i ≤ h → lpF p c kk g f sg a i = lpF p c kk g h sg a i
  | 0, h, i, sg, a, hf, hh => by
    have hi := hp.2 i (by omega)
    cases h with
    | zero => rfl
    | succ h => show a = (match p i with | none => a | some j => if c j = true then lpF p c kk g h (kk j) (cbF sg a (g i)) (j + 1) else cbF sg a (g i)); rw [hi]
  | f + 1, 0, i, sg, a, hf, hh => by
    have hi := hp.2 i (by omega)
    show (match p i with | none => a | some j => if c j = true then lpF p c kk g f (kk j) (cbF sg a (g i)) (j + 1) else cbF sg a (g i)) = a
    rw [hi]
  | f + 1, h + 1, i, sg, a, hf, hh => by
    show (match p i with | none => a | some j => if c j = true then lpF p c kk g f (kk j) (cbF sg a (g i)) (j + 1) else cbF sg a (g i)) = (match p i with | none => a | some j => if c j = true then lpF p c kk g h (kk j) (cbF sg a (g i)) (j + 1) else cbF sg a (g i))
    cases e : p i with
    | none => rfl
    | some j =>
      have hj := hp.1 i j e
      show (if c j = true then lpF p c kk g f (kk j) (cbF sg a (g i)) (j + 1) else cbF sg a (g i)) = (if c j = true then lpF p c kk g h (kk j) (cbF sg a (g i)) (j + 1) else cbF sg a (g i))
      rw [lpF_fuel hp f h (j + 1) (kk j) _ (by omega) (by omega)]
theorem lpG_eq {p : Nat → Option Nat} {c : Nat → Bool} {kk : Nat → Int} {g : Nat → EF} (hp : GP p) {sg : Int} {a : EF} {i : Nat} : lpG p c kk g sg a i = match p i with
    | none => a
    | some j => if c j = true then lpG p c kk g (kk j) (cbF sg a (g i)) (j + 1) else cbF sg a (g i) := by
  unfold lpG
  by_cases h : 1000 ≤ i
  · rw [show 1000 - i = 0 by omega, hp.2 i h]; rfl
  · obtain ⟨f, hf⟩ : ∃ f, 1000 - i = f + 1 := ⟨1000 - i - 1, by omega⟩
    rw [hf]
    show (match p i with | none => a | some j => if c j = true then lpF p c kk g f (kk j) (cbF sg a (g i)) (j + 1) else cbF sg a (g i)) = _
    cases e : p i with
    | none => rfl
    | some j =>
      have hj := hp.1 i j e
      show (if c j = true then lpF p c kk g f (kk j) (cbF sg a (g i)) (j + 1) else cbF sg a (g i)) = (if c j = true then lpF p c kk g (1000 - (j + 1)) (kk j) (cbF sg a (g i)) (j + 1) else cbF sg a (g i))
      rw [lpF_fuel hp f (1000 - (j + 1)) (j + 1) (kk j) _ (by omega) (by omega)]
theorem lpG_go {p : Nat → Option Nat} {c : Nat → Bool} {kk : Nat → Int} {g : Nat → EF} (hp : GP p) {sg s : Int} {a : EF} {i j m : Nat} (h : p i = some j) (hc : c j = true) (hs : kk j = s) (hm : m = j + 1) : lpG p c kk g sg a i = lpG p c kk g s (cbF sg a (g i)) m := by
  subst hm; subst hs
  rw [lpG_eq hp, h]
  show (if c j = true then _ else _) = _
  rw [if_pos hc]
theorem lpG_end {p : Nat → Option Nat} {c : Nat → Bool} {kk : Nat → Int} {g : Nat → EF} (hp : GP p) {sg : Int} {a : EF} {i j : Nat} (h : p i = some j) (hc : c j = false) : lpG p c kk g sg a i = cbF sg a (g i) := by
  rw [lpG_eq hp, h]
  show (if c j = true then _ else _) = _
  rw [if_neg (by rw [hc]; decide)]
/-- a sum, a comparison -/
def smG (kk vv : Nat → Int) (lw : Int) (i : Nat) : EF := lpG (tmI kk vv lw 0) (cPM kk) kk (tmG kk vv 0 zF) 0 zF i
def cpF (kk vv : Nat → Int) (lw : Int) (i : Nat) : EF := match smI kk vv lw i with
  | none => zF
  | some j => if kk j = 60 ∨ kk j = 61 ∨ kk j = 62 then cbF (kk j) (smG kk vv lw i) (smG kk vv lw (j + 1)) else zF
theorem cpF_at {kk vv : Nat → Int} {lw s : Int} {i j m : Nat} (h : smI kk vv lw i = some j) (hs : kk j = s) (hc : s = 60 ∨ s = 61 ∨ s = 62) (hm : m = j + 1) : cpF kk vv lw i = cbF s (smG kk vv lw i) (smG kk vv lw m) := by
  subst hm; subst hs
  unfold cpF
  rw [h]
  show (if _ then _ else _) = _
  rw [if_pos hc]
/-- rows of and, of or -/
def anG (kk : Nat → Int) (p : Nat → Option Nat) (g : Nat → EF) (i : Nat) : EF := lpG p (cAN kk) kk g 0 zF i
def orG (kk : Nat → Int) (p : Nat → Option Nat) (g : Nat → EF) (i : Nat) : EF := lpG (lpI p (cAN kk)) (cOR kk) kk (anG kk p g) 0 zF i
def paF (kk vv : Nat → Int) (lw : Int) : Nat → Nat → EF
  | 0, i => cpF kk vv lw i
  | d + 1, i => if kk i = 10 then ntF (paF kk vv lw d (i + 1)) else if kk i = 40 then orG kk (paS kk vv lw d) (paF kk vv lw d) (i + 1) else cpF kk vv lw i
theorem paF_cp {kk vv : Nat → Int} {lw : Int} {d i : Nat} (hc : kk i ≠ 10 ∧ kk i ≠ 40) : paF kk vv lw d i = cpF kk vv lw i := by
  cases d with
  | zero => rfl
  | succ d => unfold paF; rw [if_neg hc.1, if_neg hc.2]
/-- what a not or a ( begins -/
def opF (kk vv : Nat → Int) (lw : Int) (d : Nat) (k : Int) (i : Nat) : EF := if k = 10 then ntF (paF kk vv lw d (i + 1)) else orG kk (paS kk vv lw d) (paF kk vv lw d) (i + 1)
theorem paF_op {kk vv : Nat → Int} {lw k : Int} {d e i : Nat} (hd : d = e + 1) (hk : k = kk i) (hc : kk i = 10 ∨ kk i = 40) : paF kk vv lw d i = opF kk vv lw e k i := by
  subst hd; subst hk
  unfold opF
  show (if kk i = 10 then ntF (paF kk vv lw e (i + 1)) else if kk i = 40 then orG kk (paS kk vv lw e) (paF kk vv lw e) (i + 1) else cpF kk vv lw i) = _
  by_cases h : kk i = 10
  · rw [if_pos h, if_pos h]
  · rw [if_neg h, if_neg h, if_pos (by omega)]
theorem opF_not {kk vv : Nat → Int} {lw k : Int} {d i m : Nat} (hk : k = 10) (hm : m = i + 1) : opF kk vv lw d k i = ntF (paF kk vv lw d m) := by subst hm; exact if_pos hk
theorem opF_br {kk vv : Nat → Int} {lw k : Int} {d i m : Nat} (hk : k ≠ 10) (hm : m = i + 1) : opF kk vv lw d k i = orG kk (paS kk vv lw d) (paF kk vv lw d) m := by subst hm; exact if_neg hk
/-! 0 or 1 -/
def B01 (f : EF) : Prop := ∀ u, f u = 0 ∨ f u = 1
theorem B01.z : B01 zF := fun _ => Or.inl rfl
theorem B01.nt {f : EF} (h : B01 f) : B01 (ntF f) := fun u => by
  rcases h u with e | e
  · right; show 1 - f u = 1; rw [e]; rfl
  · left; show 1 - f u = 0; rw [e]; rfl
theorem jn_ao {s : Int} (hs : s = 9 ∨ s = 8) {a b : Int32} (ha : a = 0 ∨ a = 1) (hb : b = 0 ∨ b = 1) : jnF s a b = 0 ∨ jnF s a b = 1 := by
  rcases hs with rfl | rfl <;> rcases ha with rfl | rfl <;> rcases hb with rfl | rfl <;> decide
theorem B01.ao {s : Int} (hs : s = 9 ∨ s = 8) {f g : EF} (hf : B01 f) (hg : B01 g) : B01 (cbF s f g) := fun u => jn_ao hs (hf u) (hg u)
theorem B01.cp {s : Int} (hs : s = 60 ∨ s = 61 ∨ s = 62) {f g : EF} : B01 (cbF s f g) := fun u => by
  show jnF s (f u) (g u) = 0 ∨ jnF s (f u) (g u) = 1
  rcases hs with rfl | rfl | rfl
  · show (if (f u).toInt < (g u).toInt then (1 : Int32) else 0) = 0 ∨ (if (f u).toInt < (g u).toInt then (1 : Int32) else 0) = 1
    split
    · exact Or.inr rfl
    · exact Or.inl rfl
  · show (if (f u).toInt = (g u).toInt then (1 : Int32) else 0) = 0 ∨ (if (f u).toInt = (g u).toInt then (1 : Int32) else 0) = 1
    split
    · exact Or.inr rfl
    · exact Or.inl rfl
  · show (if (g u).toInt < (f u).toInt then (1 : Int32) else 0) = 0 ∨ (if (g u).toInt < (f u).toInt then (1 : Int32) else 0) = 1
    split
    · exact Or.inr rfl
    · exact Or.inl rfl
theorem cpF_01 {kk vv : Nat → Int} {lw : Int} {i : Nat} : B01 (cpF kk vv lw i) := by
  unfold cpF
  split
  · exact B01.z
  · split
    · rename_i h; exact B01.cp h
    · exact B01.z
/-! ===== conditions, as the reference reads them: what waits ===== -/
/-- (9, _) a not, (10, g) g and .., (11, g) g or .., (12, _) a bracket; the latest first -/
abbrev CL : Type := List (Int × EF)
def nb : CL → Nat
  | [] => 0
  | (c, _) :: t => if c = 9 ∨ c = 12 then nb t + 1 else nb t
theorem nb_9 {g : EF} {t : CL} : nb ((9, g) :: t) = nb t + 1 := rfl
theorem nb_10 {g : EF} {t : CL} : nb ((10, g) :: t) = nb t := rfl
theorem nb_11 {g : EF} {t : CL} : nb ((11, g) :: t) = nb t := rfl
theorem nb_12 {g : EF} {t : CL} : nb ((12, g) :: t) = nb t + 1 := rfl
/-- behind an operand: the rest of and, where it ends; the rest of or -/
def aF (kk vv : Nat → Int) (lw : Int) (d : Nat) (f : EF) (j : Nat) : EF := if cAN kk j = true then lpG (paS kk vv lw d) (cAN kk) kk (paF kk vv lw d) (kk j) f (j + 1) else f
def aI (kk vv : Nat → Int) (lw : Int) (d j : Nat) : Option Nat := if cAN kk j = true then lpI (paS kk vv lw d) (cAN kk) (j + 1) else some j
def oF (kk vv : Nat → Int) (lw : Int) (d : Nat) (f : EF) (j : Nat) : EF := if cOR kk j = true then lpG (lpI (paS kk vv lw d) (cAN kk)) (cOR kk) kk (anG kk (paS kk vv lw d) (paF kk vv lw d)) (kk j) f (j + 1) else f
def oI (kk vv : Nat → Int) (lw : Int) (d j : Nat) : Option Nat := if cOR kk j = true then lpI (paS kk vv lw d) (cAO kk) (j + 1) else some j
section
variable {kk vv : Nat → Int} {lw : Int}
theorem cAN_y {j : Nat} (h : kk j = 9) : cAN kk j = true := decide_eq_true h
theorem cAN_n {j : Nat} (h : kk j ≠ 9) : ¬ cAN kk j = true := by rw [show cAN kk j = false from decide_eq_false h]; decide
theorem cOR_y {j : Nat} (h : kk j = 8) : cOR kk j = true := decide_eq_true h
theorem cOR_n {j : Nat} (h : kk j ≠ 8) : ¬ cOR kk j = true := by rw [show cOR kk j = false from decide_eq_false h]; decide
theorem aI_n {d j : Nat} (h : kk j ≠ 9) : aI kk vv lw d j = some j := if_neg (cAN_n h)
theorem aF_n {d j : Nat} {f : EF} (h : kk j ≠ 9) : aF kk vv lw d f j = f := if_neg (cAN_n h)
theorem oI_n {d j : Nat} (h : kk j ≠ 8) : oI kk vv lw d j = some j := if_neg (cOR_n h)
theorem oF_n {d j : Nat} {f : EF} (h : kk j ≠ 8) : oF kk vv lw d f j = f := if_neg (cOR_n h)
/-- an operand's beginning, and what stands behind it -/
theorem an_aI {d i : Nat} : lpI (paS kk vv lw d) (cAN kk) i = match paS kk vv lw d i with
    | none => none
    | some j => aI kk vv lw d j := lpI_eq (paS_gp d)
theorem an_aF {d i j : Nat} (h : paS kk vv lw d i = some j) : anG kk (paS kk vv lw d) (paF kk vv lw d) i = aF kk vv lw d (paF kk vv lw d i) j := by
  unfold anG aF
  rw [lpG_eq (paS_gp d), h]
  rfl
theorem or_oI {d i : Nat} : lpI (paS kk vv lw d) (cAO kk) i = match lpI (paS kk vv lw d) (cAN kk) i with
    | none => none
    | some j => oI kk vv lw d j := lp_ao (paS_gp d) _ i (Nat.le_refl _)
theorem or_oF {d i m : Nat} (h : lpI (paS kk vv lw d) (cAN kk) i = some m) : orG kk (paS kk vv lw d) (paF kk vv lw d) i = oF kk vv lw d (anG kk (paS kk vv lw d) (paF kk vv lw d) i) m := by
  unfold orG oF
  rw [lpG_eq (lpI_gp (paS_gp d)), h]
  rfl
/-- one more of and -/
theorem aI_y {d j : Nat} (h : kk j = 9) : aI kk vv lw d j = match paS kk vv lw d (j + 1) with
    | none => none
    | some m => aI kk vv lw d m := (if_pos (cAN_y h)).trans an_aI
theorem aF_y {d j m : Nat} {f : EF} (h : kk j = 9) (hm : paS kk vv lw d (j + 1) = some m) : aF kk vv lw d f j = aF kk vv lw d (cbF 9 f (paF kk vv lw d (j + 1))) m := by
  unfold aF
  rw [if_pos (cAN_y h), lpG_eq (paS_gp d), hm, h]
/-- one more of or -/
theorem oI_y {d j : Nat} (h : kk j = 8) : oI kk vv lw d j = match lpI (paS kk vv lw d) (cAN kk) (j + 1) with
    | none => none
    | some m => oI kk vv lw d m := (if_pos (cOR_y h)).trans or_oI
theorem oF_y {d j m : Nat} {f : EF} (h : kk j = 8) (hm : lpI (paS kk vv lw d) (cAN kk) (j + 1) = some m) : oF kk vv lw d f j = oF kk vv lw d (cbF 8 f (anG kk (paS kk vv lw d) (paF kk vv lw d) (j + 1))) m := by
  unfold oF
  rw [if_pos (cOR_y h), lpG_eq (lpI_gp (paS_gp d)), hm, h]
end
/-- what all comes to, behind an operand f (md: behind a row of and) -/
def coF (kk vv : Nat → Int) (lw : Int) : CL → Bool → EF → Nat → EF
  | [], md, f, j => match (if md = true then some j else aI kk vv lw 8 j) with
    | none => zF
    | some m => match oI kk vv lw 8 m with
      | none => zF
      | some _ => oF kk vv lw 8 (if md = true then f else aF kk vv lw 8 f j) m
  | (c, g) :: t, md, f, j =>
    if c = 9 then coF kk vv lw t md (ntF f) j
    else if c = 10 then coF kk vv lw t md (cbF 9 g f) j
    else if c = 11 then (match (if md = true then some j else aI kk vv lw (8 - nb t) j) with
      | none => zF
      | some m => coF kk vv lw t true (cbF 8 g (if md = true then f else aF kk vv lw (8 - nb t) f j)) m)
    else (match (if md = true then some j else aI kk vv lw (7 - nb t) j) with
      | none => zF
      | some m => match oI kk vv lw (7 - nb t) m with
        | none => zF
        | some x => if kk x = 41 then coF kk vv lw t false (oF kk vv lw (7 - nb t) (if md = true then f else aF kk vv lw (7 - nb t) f j) m) (x + 1) else zF)
/-- what all comes to, an operand being due -/
def duF (kk vv : Nat → Int) (lw : Int) (t : CL) (i : Nat) : EF := match paS kk vv lw (8 - nb t) i with
  | none => zF
  | some j => coF kk vv lw t false (paF kk vv lw (8 - nb t) i) j
section
variable {kk vv : Nat → Int} {lw : Int}
theorem co_9 {g f : EF} {t : CL} {md : Bool} {j : Nat} : coF kk vv lw ((9, g) :: t) md f j = coF kk vv lw t md (ntF f) j := rfl
theorem co_10 {g f : EF} {t : CL} {md : Bool} {j : Nat} : coF kk vv lw ((10, g) :: t) md f j = coF kk vv lw t md (cbF 9 g f) j := rfl
theorem co_11 {g f : EF} {t : CL} {md : Bool} {j : Nat} : coF kk vv lw ((11, g) :: t) md f j = (match (if md = true then some j else aI kk vv lw (8 - nb t) j) with
      | none => zF
      | some m => coF kk vv lw t true (cbF 8 g (if md = true then f else aF kk vv lw (8 - nb t) f j)) m) := rfl
theorem co_12 {g f : EF} {t : CL} {md : Bool} {j : Nat} : coF kk vv lw ((12, g) :: t) md f j = (match (if md = true then some j else aI kk vv lw (7 - nb t) j) with
      | none => zF
      | some m => match oI kk vv lw (7 - nb t) m with
        | none => zF
        | some x => if kk x = 41 then coF kk vv lw t false (oF kk vv lw (7 - nb t) (if md = true then f else aF kk vv lw (7 - nb t) f j) m) (x + 1) else zF) := rfl
theorem co_nil {f : EF} {md : Bool} {j : Nat} : coF kk vv lw [] md f j = (match (if md = true then some j else aI kk vv lw 8 j) with
    | none => zF
    | some m => match oI kk vv lw 8 m with
      | none => zF
      | some _ => oF kk vv lw 8 (if md = true then f else aF kk vv lw 8 f j) m) := rfl
theorem if_tt {α : Type} {a b : α} : (if true = true then a else b) = a := if_pos rfl
theorem if_ft {α : Type} {a b : α} : (if false = true then a else b) = b := if_neg (by decide)
/-- the whole condition -/
theorem duF_0 {i n : Nat} (h : lpI (paS kk vv lw 8) (cAO kk) i = some n) : orG kk (paS kk vv lw 8) (paF kk vv lw 8) i = duF kk vv lw [] i := by
  rw [or_oI, an_aI] at h
  show _ = (match paS kk vv lw 8 i with | none => zF | some j => coF kk vv lw [] false (paF kk vv lw 8 i) j)
  cases e : paS kk vv lw 8 i with
  | none => rw [e] at h; cases h
  | some j =>
    rw [e] at h
    have h : (match aI kk vv lw 8 j with | none => none | some j => oI kk vv lw 8 j) = some n := h
    show _ = coF kk vv lw [] false (paF kk vv lw 8 i) j
    rw [co_nil, if_ft, if_ft]
    cases ea : aI kk vv lw 8 j with
    | none => rw [ea] at h; cases h
    | some m =>
      rw [ea] at h
      have h : oI kk vv lw 8 m = some n := h
      show _ = (match oI kk vv lw 8 m with | none => zF | some _ => oF kk vv lw 8 (aF kk vv lw 8 (paF kk vv lw 8 i) j) m)
      rw [h, or_oF (m := m) (by rw [an_aI, e]; exact ea), an_aF e]
theorem duF_not {t : CL} {i m : Nat} (hl : nb t < 8) (h : kk i = 10) (hm : m = i + 1) : duF kk vv lw t i = duF kk vv lw ((9, zF) :: t) m := by
  subst hm
  unfold duF
  rw [nb_9, show 8 - nb t = (8 - (nb t + 1)) + 1 by omega]
  rw [show paS kk vv lw (8 - (nb t + 1) + 1) i = paS kk vv lw (8 - (nb t + 1)) (i + 1) from if_pos h]
  rw [show paF kk vv lw (8 - (nb t + 1) + 1) i = ntF (paF kk vv lw (8 - (nb t + 1)) (i + 1)) from if_pos h]
  rfl
theorem duF_br {t : CL} {i m : Nat} (hl : nb t < 8) (h : kk i = 40) (hm : m = i + 1) : duF kk vv lw t i = duF kk vv lw ((12, zF) :: t) m := by
  subst hm
  unfold duF
  rw [nb_12, show 8 - nb t = (7 - nb t) + 1 by omega, show 8 - (nb t + 1) = 7 - nb t by omega]
  rw [show paS kk vv lw (7 - nb t + 1) i = (match lpI (paS kk vv lw (7 - nb t)) (cAO kk) (i + 1) with | none => none | some j => if kk j = 41 then some (j + 1) else none) from (if_neg (by omega)).trans (if_pos h)]
  rw [show paF kk vv lw (7 - nb t + 1) i = orG kk (paS kk vv lw (7 - nb t)) (paF kk vv lw (7 - nb t)) (i + 1) from (if_neg (by omega)).trans (if_pos h)]
  rw [or_oI, an_aI]
  cases e : paS kk vv lw (7 - nb t) (i + 1) with
  | none => rfl
  | some j =>
    show (match (match (match aI kk vv lw (7 - nb t) j with | none => none | some j => oI kk vv lw (7 - nb t) j) with | none => none | some j => if kk j = 41 then some (j + 1) else none) with | none => zF | some j => coF kk vv lw t false (orG kk (paS kk vv lw (7 - nb t)) (paF kk vv lw (7 - nb t)) (i + 1)) j) = coF kk vv lw ((12, zF) :: t) false (paF kk vv lw (7 - nb t) (i + 1)) j
    rw [co_12, if_ft, if_ft]
    cases ea : aI kk vv lw (7 - nb t) j with
    | none => rfl
    | some m =>
      show (match (match oI kk vv lw (7 - nb t) m with | none => none | some j => if kk j = 41 then some (j + 1) else none) with | none => zF | some j => coF kk vv lw t false (orG kk (paS kk vv lw (7 - nb t)) (paF kk vv lw (7 - nb t)) (i + 1)) j) = (match oI kk vv lw (7 - nb t) m with | none => zF | some x => if kk x = 41 then coF kk vv lw t false (oF kk vv lw (7 - nb t) (aF kk vv lw (7 - nb t) (paF kk vv lw (7 - nb t) (i + 1)) j) m) (x + 1) else zF)
      rw [or_oF (m := m) (by rw [an_aI, e]; exact ea), an_aF e]
      cases oI kk vv lw (7 - nb t) m with
      | none => rfl
      | some x =>
        show (match (if kk x = 41 then some (x + 1) else none) with | none => zF | some j => coF kk vv lw t false _ j) = (if kk x = 41 then _ else zF)
        by_cases g : kk x = 41
        · rw [if_pos g, if_pos g]
        · rw [if_neg g, if_neg g]
theorem duF_cp {t : CL} {i j : Nat} (hk : kk i ≠ 10 ∧ kk i ≠ 40) (h : cpI kk vv lw i = some j) : duF kk vv lw t i = coF kk vv lw t false (cpF kk vv lw i) j := by
  unfold duF
  rw [pa_cp hk, h, paF_cp hk]
/-- neither a not nor an and on top -/
def hT0 : CL → Prop
  | [] => True
  | (c, _) :: _ => c = 11 ∨ c = 12
/-- neither, nor an or -/
def hT1 : CL → Prop
  | [] => True
  | (c, _) :: _ => c = 12
theorem coF_an {t : CL} {f : EF} {j m : Nat} (ht : hT0 t) (h : kk j = 9) (hm : m = j + 1) : coF kk vv lw t false f j = duF kk vv lw ((10, f) :: t) m := by
  subst hm
  unfold duF
  rw [nb_10]
  cases t with
  | nil =>
    rw [co_nil, if_ft, if_ft, aI_y h]
    show _ = (match paS kk vv lw 8 (j + 1) with | none => zF | some m => coF kk vv lw ((10, f) :: []) false (paF kk vv lw 8 (j + 1)) m)
    cases e : paS kk vv lw 8 (j + 1) with
    | none => rfl
    | some m =>
      show _ = coF kk vv lw ((10, f) :: []) false (paF kk vv lw 8 (j + 1)) m
      rw [co_10, co_nil, if_ft, if_ft, aF_y h e]
  | cons p t =>
    obtain ⟨c, g⟩ := p
    have ht : c = 11 ∨ c = 12 := ht
    rcases ht with rfl | rfl
    · rw [co_11, if_ft, if_ft, aI_y h, nb_11]
      cases e : paS kk vv lw (8 - nb t) (j + 1) with
      | none => rfl
      | some m =>
        show _ = coF kk vv lw ((10, f) :: (11, g) :: t) false (paF kk vv lw (8 - nb t) (j + 1)) m
        rw [co_10, co_11, if_ft, if_ft, aF_y h e]
    · rw [co_12, if_ft, if_ft, aI_y h, nb_12, show 8 - (nb t + 1) = 7 - nb t by omega]
      cases e : paS kk vv lw (7 - nb t) (j + 1) with
      | none => rfl
      | some m =>
        show _ = coF kk vv lw ((10, f) :: (12, g) :: t) false (paF kk vv lw (7 - nb t) (j + 1)) m
        rw [co_10, co_12, if_ft, if_ft, aF_y h e]
/-- no and stands there: behind an operand, behind a row of and -/
theorem coF_md {t : CL} {f : EF} {j : Nat} (ht : hT0 t) (h : kk j ≠ 9) : coF kk vv lw t true f j = coF kk vv lw t false f j := by
  cases t with
  | nil => rw [co_nil, co_nil, if_tt, if_tt, if_ft, if_ft, aI_n h, aF_n h]
  | cons p t =>
    obtain ⟨c, g⟩ := p
    have ht : c = 11 ∨ c = 12 := ht
    rcases ht with rfl | rfl
    · rw [co_11, co_11, if_tt, if_tt, if_ft, if_ft, aI_n h, aF_n h]
    · rw [co_12, co_12, if_tt, if_tt, if_ft, if_ft, aI_n h, aF_n h]
theorem coF_so {t : CL} {g f : EF} {j : Nat} (ht : hT0 t) (h : kk j ≠ 9) : coF kk vv lw ((11, g) :: t) false f j = coF kk vv lw t false (cbF 8 g f) j := by
  rw [co_11, if_ft, if_ft, aI_n h, aF_n h]
  exact coF_md ht h
theorem coF_or {t : CL} {f : EF} {j m : Nat} (ht : hT1 t) (h : kk j = 8) (hm : m = j + 1) : coF kk vv lw t false f j = duF kk vv lw ((11, f) :: t) m := by
  subst hm
  have h9 : kk j ≠ 9 := by omega
  unfold duF
  rw [nb_11]
  cases t with
  | nil =>
    rw [co_nil, if_ft, if_ft, aI_n h9, aF_n h9]
    show (match oI kk vv lw 8 j with | none => zF | some _ => oF kk vv lw 8 f j) = (match paS kk vv lw 8 (j + 1) with | none => zF | some m => coF kk vv lw ((11, f) :: []) false (paF kk vv lw 8 (j + 1)) m)
    rw [oI_y h, an_aI]
    cases e : paS kk vv lw 8 (j + 1) with
    | none => rfl
    | some m =>
      show (match (match aI kk vv lw 8 m with | none => none | some m => oI kk vv lw 8 m) with | none => zF | some _ => oF kk vv lw 8 f j) = coF kk vv lw ((11, f) :: []) false (paF kk vv lw 8 (j + 1)) m
      rw [co_11, if_ft, if_ft]
      show _ = (match aI kk vv lw 8 m with | none => zF | some m_1 => coF kk vv lw [] true (cbF 8 f (aF kk vv lw 8 (paF kk vv lw 8 (j + 1)) m)) m_1)
      cases ea : aI kk vv lw 8 m with
      | none => rfl
      | some x =>
        show (match oI kk vv lw 8 x with | none => zF | some _ => oF kk vv lw 8 f j) = coF kk vv lw [] true (cbF 8 f (aF kk vv lw 8 (paF kk vv lw 8 (j + 1)) m)) x
        rw [co_nil, if_tt, if_tt, oF_y h (m := x) (by rw [an_aI, e]; exact ea), an_aF e]
  | cons p t =>
    obtain ⟨c, g⟩ := p
    have ht : c = 12 := ht
    subst ht
    rw [co_12, if_ft, if_ft, aI_n h9, aF_n h9, nb_12, show 8 - (nb t + 1) = 7 - nb t by omega]
    show (match oI kk vv lw (7 - nb t) j with | none => zF | some x => if kk x = 41 then coF kk vv lw t false (oF kk vv lw (7 - nb t) f j) (x + 1) else zF) = _
    rw [oI_y h, an_aI]
    cases e : paS kk vv lw (7 - nb t) (j + 1) with
    | none => rfl
    | some m =>
      show (match (match aI kk vv lw (7 - nb t) m with | none => none | some m => oI kk vv lw (7 - nb t) m) with | none => zF | some x => if kk x = 41 then coF kk vv lw t false (oF kk vv lw (7 - nb t) f j) (x + 1) else zF) = coF kk vv lw ((11, f) :: (12, g) :: t) false (paF kk vv lw (7 - nb t) (j + 1)) m
      rw [co_11, if_ft, if_ft, nb_12, show 8 - (nb t + 1) = 7 - nb t by omega]
      cases ea : aI kk vv lw (7 - nb t) m with
      | none => rfl
      | some x =>
        show (match oI kk vv lw (7 - nb t) x with | none => zF | some x => if kk x = 41 then coF kk vv lw t false (oF kk vv lw (7 - nb t) f j) (x + 1) else zF) = coF kk vv lw ((12, g) :: t) true (cbF 8 f (aF kk vv lw (7 - nb t) (paF kk vv lw (7 - nb t) (j + 1)) m)) x
        rw [co_12, if_tt, if_tt, oF_y h (m := x) (by rw [an_aI, e]; exact ea), an_aF e]
theorem coF_close {t : CL} {g f : EF} {j m : Nat} (h : kk j = 41) (hm : m = j + 1) : coF kk vv lw ((12, g) :: t) false f j = coF kk vv lw t false f m := by
  subst hm
  rw [co_12, if_ft, if_ft, aI_n (by omega), aF_n (by omega)]
  show (match oI kk vv lw (7 - nb t) j with | none => zF | some x => if kk x = 41 then coF kk vv lw t false (oF kk vv lw (7 - nb t) f j) (x + 1) else zF) = _
  rw [oI_n (by omega), oF_n (by omega)]
  exact if_pos h
theorem coF_end {f : EF} {j : Nat} (h : kk j ≠ 9 ∧ kk j ≠ 8) : coF kk vv lw [] false f j = f := by
  rw [co_nil, if_ft, if_ft, aI_n h.1, aF_n h.1]
  show (match oI kk vv lw 8 j with | none => zF | some _ => oF kk vv lw 8 f j) = _
  rw [oI_n h.2, oF_n h.2]
end
