/-! ===== what waits is settled ===== -/
theorem CXP.cast {f : Nat → Int32} {t : CL} {n n' : Nat} (h : CXP f t n) (hn : n' = n) : CXP f t n' := by subst hn; exact h
theorem CXP.congr {f f1 : Nat → Int32} {t : CL} {n : Nat} (e : ∀ j, f1 j = f j) (h : CXP f t n) : CXP f1 t n := h.keep (fun j _ => e j)
theorem CXP.nil {f : Nat → Int32} {n : Nat} (hn : n = 0) : CXP f [] n := hn
theorem CXP.push {f f1 : Nat → Int32} {t : CL} {n m : Nat} {c : Int} {g : EF} (h : CXP f t n) (hx : (f1 n).toInt = c) (ho : ∀ j, j ≠ n → f1 j = f j) (hm : m = n + 1) : CXP f1 ((c, g) :: t) m := ⟨n, hm, hx, h.keep (fun j hj => ho j (by omega))⟩
theorem CXP.top {f : Nat → Int32} {n m : Nat} : ∀ {t : CL}, CXP f t n → n = m + 1 → ∃ (d : Int) (g : EF) (t2 : CL), t = (d, g) :: t2 ∧ (f m).toInt = d ∧ CXP f t2 m
  | [], h, hm => by
    have h : n = 0 := h
    omega
  | (c, g) :: t, h, hm => by
    obtain ⟨k, h1, h2, h3⟩ := h
    have e : k = m := by omega
    subst e
    exact ⟨c, g, t, rfl, h2, h3⟩
theorem CXP.nb {f : Nat → Int32} : ∀ {t : CL} {n : Nat}, CXP f t n → nb t = (mkL f n).length
  | [], n, h => by
    have h : n = 0 := h
    subst h
    rfl
  | (c, g) :: t, n, h => by
    obtain ⟨k, h1, h2, h3⟩ := h
    subst h1
    have ih := CXP.nb h3
    show (if c = 9 ∨ c = 12 then _ + 1 else _) = (if (f k).toInt = 9 then false :: mkL f k else if (f k).toInt = 12 then true :: mkL f k else mkL f k).length
    rw [h2, ih]
    by_cases c9 : c = 9
    · rw [if_pos (Or.inl c9), if_pos c9, List.length_cons]
    · by_cases c12 : c = 12
      · rw [if_pos (Or.inr c12), if_neg c9, if_pos c12, List.length_cons]
      · rw [if_neg (by omega), if_neg c9, if_neg c12]
theorem opL_o {c : Int} {g : EF} {t : CL} (h : c = 9 ∨ c = 12) : opL ((c, g) :: t) = opL t := if_pos h
theorem opL_a {c : Int} {g : EF} {t : CL} (h : ¬ (c = 9 ∨ c = 12)) : opL ((c, g) :: t) = g :: opL t := if_neg h
def opE (c : Int) (g f : EF) : EF := if c = 9 then ntF f else if c = 10 then cbF 9 g f else cbF 8 g f
theorem opE_01 {c : Int} {g f : EF} (hc : c = 9 ∨ c = 10 ∨ c = 11) (hg : c = 9 ∨ B01 g) (hf : B01 f) : B01 (opE c g f) := by
  unfold opE
  by_cases c9 : c = 9
  · rw [if_pos c9]; exact B01.nt hf
  · rw [if_neg c9]
    have hg := hg.resolve_left c9
    by_cases c10 : c = 10
    · rw [if_pos c10]; exact B01.ao (Or.inl rfl) hg hf
    · rw [if_neg c10]; exact B01.ao (Or.inr rfl) hg hf
/-- no not on top -/
def hT9 : CL → Prop
  | [] => True
  | (c, _) :: _ => c ≠ 9
def stL (c : Int) : CL → EF → CL × EF
  | [], f => ([], f)
  | (d, g) :: t, f => if d = c then stL c t (opE c g f) else ((d, g) :: t, f)
theorem stL_y {c d : Int} {t t2 : CL} {g f : EF} (ht : t = (d, g) :: t2) (hd : d = c) : stL c t f = stL c t2 (opE c g f) := by
  subst ht
  exact if_pos hd
theorem stL_end {f0 : Nat → Int32} {c : Int} {t : CL} {n : Nat} {f : EF} (h : CXP f0 t n) (he : n = 0 ∨ (f0 (n - 1)).toInt ≠ c) : stL c t f = (t, f) := by
  cases t with
  | nil => rfl
  | cons p t2 =>
    obtain ⟨d, g⟩ := p
    obtain ⟨m, h1, h2, h3⟩ := h
    subst h1
    have he := he.resolve_left (by omega)
    rw [show m + 1 - 1 = m by omega, h2] at he
    exact if_neg he
theorem CXO.tl {d : Int} {g : EF} {t t2 : CL} (h : CXO t) (ht : t = (d, g) :: t2) : CXO t2 := by
  subst ht
  exact h.2
theorem CXO.g {d c : Int} {g : EF} {t t2 : CL} (h : CXO t) (ht : t = (d, g) :: t2) (hd : d = c) (hc : c = 9 ∨ c = 10 ∨ c = 11) : c = 9 ∨ B01 g := by
  subst ht; subst hd
  rcases h.1 with a | a | a
  · exact Or.inl (by omega)
  · exact Or.inr a.2.1
  · exact Or.inr a.2.1
theorem stL_ok {c : Int} (hc : c = 9 ∨ c = 10 ∨ c = 11) : ∀ {t t1 : CL} {f f1 : EF}, stL c t f = (t1, f1) → CXO t → B01 f → CXO t1 ∧ B01 f1
  | [], t1, f, f1, h, ho, hf => by
    have h : (([], f) : CL × EF) = (t1, f1) := h
    have e1 := congrArg Prod.fst h
    have e2 := congrArg Prod.snd h
    subst e1; subst e2
    exact ⟨ho, hf⟩
  | (d, g) :: t, t1, f, f1, h, ho, hf => by
    by_cases e : d = c
    · rw [stL_y rfl e] at h
      exact stL_ok hc h ho.2 (opE_01 hc (ho.g rfl e hc) hf)
    · have h : (((d, g) :: t, f) : CL × EF) = (t1, f1) := (if_neg e).symm.trans h
      have e1 := congrArg Prod.fst h
      have e2 := congrArg Prod.snd h
      subst e1; subst e2
      exact ⟨ho, hf⟩
theorem RZ.stl {lw c d : Int} {O A : Nat → Int32} {p q q' : Nat} {t t2 : CL} {g f : EF} (h : RZ lw O A p q (f :: opL t)) (ht : t = (d, g) :: t2) (hd : d = c) (hc : c = 9 ∨ c = 10 ∨ c = 11) (ho : CXO t) (hf : B01 f) (hq : q' = q) (hz : (O q').toInt = c) : RZ lw O A p (q' + 1) (opE c g f :: opL t2) := by
  have hg := ho.g ht hd hc
  subst ht; subst hd; subst hq
  unfold opE
  rcases hc with rfl | rfl | rfl
  · rw [opL_o (Or.inl rfl)] at h
    rw [if_pos rfl]
    exact h.not hz
  · rw [opL_a (by decide)] at h
    rw [if_neg (by decide), if_pos rfl]
    exact h.bin hz (Or.inr (Or.inr (Or.inr (Or.inr (Or.inr (Or.inr (Or.inr ⟨Or.inl rfl, hg.resolve_left (by decide), hf⟩)))))))
  · rw [opL_a (by decide)] at h
    rw [if_neg (by decide), if_neg (by decide)]
    exact h.bin hz (Or.inr (Or.inr (Or.inr (Or.inr (Or.inr (Or.inr (Or.inr ⟨Or.inr rfl, hg.resolve_left (by decide), hf⟩)))))))
section
variable {kk vv : Nat → Int} {lw : Int}
theorem stL_9 {j : Nat} : ∀ {t t1 : CL} {f f1 : EF}, stL 9 t f = (t1, f1) → coF kk vv lw t false f j = coF kk vv lw t1 false f1 j ∧ hT9 t1
  | [], t1, f, f1, h => by
    have h : (([], f) : CL × EF) = (t1, f1) := h
    have e1 := congrArg Prod.fst h
    have e2 := congrArg Prod.snd h
    subst e1; subst e2
    exact ⟨rfl, trivial⟩
  | (d, g) :: t, t1, f, f1, h => by
    by_cases e : d = 9
    · rw [stL_y rfl e] at h
      subst e
      have z := stL_9 (j := j) h
      exact ⟨(co_9 (kk := kk) (vv := vv) (lw := lw)).trans z.1, z.2⟩
    · have h : (((d, g) :: t, f) : CL × EF) = (t1, f1) := (if_neg e).symm.trans h
      have e1 := congrArg Prod.fst h
      have e2 := congrArg Prod.snd h
      subst e1; subst e2
      exact ⟨rfl, e⟩
theorem hT0_of {t : CL} (h9 : hT9 t) (ho : CXO t) (h10 : ∀ g t2, t ≠ (10, g) :: t2) : hT0 t := by
  cases t with
  | nil => trivial
  | cons p t =>
    obtain ⟨c, g⟩ := p
    have h9 : c ≠ 9 := h9
    rcases ho.1 with a | a | a
    · exact Or.inr (by omega)
    · exact absurd (by rw [a.1]) (h10 g t)
    · exact Or.inl a.1
theorem hT1_of {t : CL} (h0 : hT0 t) (h11 : ∀ g t2, t ≠ (11, g) :: t2) : hT1 t := by
  cases t with
  | nil => trivial
  | cons p t =>
    obtain ⟨c, g⟩ := p
    have h0 : c = 11 ∨ c = 12 := h0
    rcases h0 with a | a
    · exact absurd (by rw [a]) (h11 g t)
    · exact a
theorem hT0_9 {t : CL} (h : hT0 t) : hT9 t := by
  cases t with
  | nil => trivial
  | cons p t =>
    obtain ⟨c, g⟩ := p
    have h : c = 11 ∨ c = 12 := h
    show c ≠ 9
    omega
theorem stL_n {c d : Int} {t t1 : CL} {g f f1 : EF} (hd : d ≠ c) (h : stL c ((d, g) :: t) f = (t1, f1)) : t1 = (d, g) :: t ∧ f1 = f := by
  have h : (((d, g) :: t, f) : CL × EF) = (t1, f1) := (if_neg hd).symm.trans h
  exact ⟨(congrArg Prod.fst h).symm, (congrArg Prod.snd h).symm⟩
theorem stL_10 {j : Nat} : ∀ {t t1 : CL} {f f1 : EF}, stL 10 t f = (t1, f1) → hT9 t → CXO t → coF kk vv lw t false f j = coF kk vv lw t1 false f1 j ∧ hT0 t1
  | [], t1, f, f1, h, _, _ => by
    have h : (([], f) : CL × EF) = (t1, f1) := h
    have e1 := congrArg Prod.fst h
    have e2 := congrArg Prod.snd h
    subst e1; subst e2
    exact ⟨rfl, trivial⟩
  | (d, g) :: t, t1, f, f1, h, h9, ho => by
    by_cases e : d = 10
    · rw [stL_y rfl e] at h
      subst e
      have h0 : hT0 t := by
        rcases ho.1 with a | a | a
        · exact absurd a (by decide)
        · exact a.2.2
        · exact absurd a.1 (by decide)
      have z := stL_10 (j := j) h (hT0_9 h0) ho.2
      exact ⟨(co_10 (kk := kk) (vv := vv) (lw := lw)).trans z.1, z.2⟩
    · obtain ⟨e1, e2⟩ := stL_n e h
      subst e1; subst e2
      refine ⟨rfl, hT0_of h9 ho (fun g2 t2 z => e ?_)⟩
      have z := congrArg (fun x : CL => match x with | [] => (0 : Int) | (c, _) :: _ => c) z
      exact z
theorem stL_11 {j : Nat} : ∀ {t t1 : CL} {f f1 : EF}, stL 11 t f = (t1, f1) → hT0 t → CXO t → kk j ≠ 9 → coF kk vv lw t false f j = coF kk vv lw t1 false f1 j ∧ hT1 t1
  | [], t1, f, f1, h, _, _, _ => by
    have h : (([], f) : CL × EF) = (t1, f1) := h
    have e1 := congrArg Prod.fst h
    have e2 := congrArg Prod.snd h
    subst e1; subst e2
    exact ⟨rfl, trivial⟩
  | (d, g) :: t, t1, f, f1, h, h0, ho, hj => by
    by_cases e : d = 11
    · rw [stL_y rfl e] at h
      subst e
      have h1 : hT1 t := by
        rcases ho.1 with a | a | a
        · exact absurd a (by decide)
        · exact absurd a.1 (by decide)
        · exact a.2.2
      have h00 : hT0 t := by
        cases t with
        | nil => trivial
        | cons p t => exact Or.inr h1
      have z := stL_11 (j := j) h h00 ho.2 hj
      exact ⟨(coF_so h00 hj).trans z.1, z.2⟩
    · obtain ⟨e1, e2⟩ := stL_n e h
      subst e1; subst e2
      refine ⟨rfl, hT1_of h0 (fun g2 t2 z => e ?_)⟩
      have z := congrArg (fun x : CL => match x with | [] => (0 : Int) | (c, _) :: _ => c) z
      exact z
theorem hT1_nil {t : CL} (h : hT1 t) (hn : nb t = 0) : t = [] := by
  cases t with
  | nil => rfl
  | cons p t =>
    obtain ⟨c, g⟩ := p
    have h : c = 12 := h
    subst h
    rw [nb_12] at hn
    omega
theorem CXO.o {c : Int} {g : EF} {t : CL} (h : CXO t) (hc : c = 9 ∨ c = 12) : CXO ((c, g) :: t) := ⟨Or.inl hc, h⟩
theorem CXO.a {g : EF} {t : CL} (h : CXO t) (hg : B01 g) (h0 : hT0 t) : CXO ((10, g) :: t) := ⟨Or.inr (Or.inl ⟨rfl, hg, h0⟩), h⟩
theorem CXO.r {g : EF} {t : CL} (h : CXO t) (hg : B01 g) (h0 : hT1 t) : CXO ((11, g) :: t) := ⟨Or.inr (Or.inr ⟨rfl, hg, h0⟩), h⟩
end
