/-! ===== the two machines that work sums out ===== -/
def up1 (k : Nat → Int32) (t : Nat) (v : Int32) : Nat → Int32 := fun j => if j = t then v else k j
theorem up1_at {k : Nat → Int32} {t : Nat} {v : Int32} : up1 k t v t = v := if_pos rfl
theorem up1_ne {k : Nat → Int32} {t j : Nat} {v : Int32} (h : j ≠ t) : up1 k t v j = k j := if_neg h
/-- what is asked, as laws (lw not 0) or jobs may -/
def mkE (lw : Int) (w : Nat → Int32) : Nat → Int32 := fun j => if (lw ≠ 0 ∧ j < 10) ∨ (lw = 0 ∧ 10 ≤ j ∧ j < 14) then w j else 0
theorem mkE_y {lw : Int} {w : Nat → Int32} {j : Nat} (h : (lw ≠ 0 ∧ j < 10) ∨ (lw = 0 ∧ 10 ≤ j ∧ j < 14)) : mkE lw w j = w j := if_pos h
/-- a unit that may stand there -/
def UO (lw k : Int) : Prop := k = 24 ∨ (lw ≠ 0 ∧ (k = 6 ∨ (11 ≤ k ∧ k ≤ 19))) ∨ (lw = 0 ∧ 20 ≤ k ∧ k ≤ 23)
/-! the class's -/
def cIx (j : Nat) : Nat := if j = 7 then 6 else if j ≤ 6 then j + 11 else j + 10
def eC (un : Nat → Int32) : Nat → Int32 := fun j => un (cIx j)
theorem cIx_u {k : Int} (h : k = 6 ∨ (11 ≤ k ∧ k ≤ 23)) : cIx (uIx k) = k.toNat := by
  unfold uIx
  rcases h with rfl | h
  · rfl
  · rw [if_neg (by omega)]
    by_cases c : k ≤ 17
    · rw [if_pos c]; unfold cIx; rw [if_neg (by omega), if_pos (by omega)]; omega
    · rw [if_neg c]; unfold cIx; rw [if_neg (by omega), if_neg (by omega)]; omega
theorem uIx_lw {lw k : Int} (h : UO lw k) (hk : k ≠ 24) : (lw ≠ 0 ∧ uIx k < 10) ∨ (lw = 0 ∧ 10 ≤ uIx k ∧ uIx k < 14) := by
  unfold uIx
  rcases h with h | ⟨h1, h2⟩ | ⟨h1, h2⟩
  · exact absurd h hk
  · refine Or.inl ⟨h1, ?_⟩
    by_cases c : k = 6
    · rw [if_pos c]; decide
    · rw [if_neg c]; split <;> omega
  · refine Or.inr ⟨h1, ?_⟩
    rw [if_neg (by omega), if_neg (by omega)]; omega
def kdC (s : Int32) : Int := s.toInt / 100000
def nmC (s : Int32) : Int := s.toInt % 100000
def jdC (k : Int) (a b : Int32) : Int32 := if k = 43 then a + b else if k = 45 then a - b else if k = 42 then a * b else if k = 60 then (if a.toInt < b.toInt then 1 else 0) else if k = 61 then (if a.toInt = b.toInt then 1 else 0) else if k = 62 then (if b.toInt < a.toInt then 1 else 0) else if k = 9 then a &&& b else a ||| b
def stC (un : Nat → Int32) (s : Int32) (k : Nat → Int32) (t : Nat) : (Nat → Int32) × Nat :=
  if (kdC s = 24 ∨ kdC s = 6 ∨ (11 ≤ kdC s ∧ kdC s ≤ 23)) ∧ t < 40 then (up1 k t (if kdC s = 24 then Int32.ofInt (nmC s) else un (kdC s).toNat), t + 1)
  else if kdC s = 10 ∧ 1 ≤ t then (up1 k (t - 1) (1 - k (t - 1)), t)
  else if kdC s = 47 ∧ 1 ≤ t ∧ 0 < nmC s then (up1 k (t - 1) (k (t - 1) / Int32.ofInt (nmC s)), t)
  else if 2 ≤ t then (up1 k (t - 2) (jdC (kdC s) (k (t - 2)) (k (t - 1))), t - 1)
  else (k, t)
def rnC (un S : Nat → Int32) : Nat → Nat → (Nat → Int32) → Nat → (Nat → Int32) × Nat
  | 0, _, k, t => (k, t)
  | f + 1, p, k, t => rnC un S f (p + 1) (stC un (S p) k t).1 (stC un (S p) k t).2
def vlC (un S k : Nat → Int32) (a z : Nat) : Int32 := (rnC un S (z - a) a (up1 k 0 0) 0).1 0
theorem rnC_add {un S : Nat → Int32} : ∀ (a b p : Nat) (k : Nat → Int32) (t : Nat), rnC un S (a + b) p k t = rnC un S b (p + a) (rnC un S a p k t).1 (rnC un S a p k t).2
  | 0, b, p, k, t => by rw [Nat.zero_add]; rfl
  | a + 1, b, p, k, t => by
    rw [show a + 1 + b = (a + b) + 1 by omega]
    show rnC un S (a + b) (p + 1) _ _ = rnC un S b (p + (a + 1)) (rnC un S a (p + 1) _ _).1 (rnC un S a (p + 1) _ _).2
    rw [rnC_add a b (p + 1), show p + 1 + a = p + (a + 1) by omega]
theorem rnC_congr {un S S1 : Nat → Int32} : ∀ (f p : Nat) (k : Nat → Int32) (t : Nat), (∀ j, p ≤ j → j < p + f → S1 j = S j) → rnC un S1 f p k t = rnC un S f p k t
  | 0, _, _, _, _ => rfl
  | f + 1, p, k, t, h => by
    show rnC un S1 f (p + 1) (stC un (S1 p) k t).1 (stC un (S1 p) k t).2 = rnC un S f (p + 1) (stC un (S p) k t).1 (stC un (S p) k t).2
    rw [h p (Nat.le_refl _) (by omega)]
    exact rnC_congr f (p + 1) _ _ (fun j h1 h2 => h j (by omega) (by omega))
theorem rnC_go {un S : Nat → Int32} {f g p q : Nat} {k k1 : Nat → Int32} {t t1 : Nat} (hf : f = g + 1) (hs : stC un (S p) k t = (k1, t1)) (hq : q = p + 1) : rnC un S f p k t = rnC un S g q k1 t1 := by
  subst hf; subst hq
  show rnC un S g (p + 1) (stC un (S p) k t).1 (stC un (S p) k t).2 = _
  rw [hs]
/-- the values of ds lie above place n -/
def VS (w : Nat → Int32) (k : Nat → Int32) (n : Nat) : List EF → Prop
  | [] => True
  | f :: t => k (n + t.length) = f w ∧ VS w k n t
theorem VS.up {w k : Nat → Int32} {n m : Nat} {v : Int32} : ∀ {ds : List EF}, VS w k n ds → n + ds.length ≤ m → VS w (up1 k m v) n ds
  | [], _, _ => trivial
  | _ :: t, h, hm => by
    rw [List.length_cons] at hm
    exact ⟨by rw [up1_ne (by omega)]; exact h.1, VS.up h.2 (by omega)⟩
theorem VS.of {w k k1 : Nat → Int32} {n : Nat} : ∀ {ds : List EF}, VS w k n ds → (∀ j, j < n + ds.length → k1 j = k j) → VS w k1 n ds
  | [], _, _ => trivial
  | _ :: t, h, hm => by
    rw [List.length_cons] at hm
    exact ⟨by rw [hm _ (by omega)]; exact h.1, VS.of h.2 (fun j hj => hm j (by omega))⟩
theorem kd_of {s : Int32} {k v : Int} (h : s.toInt = k * 100000 + v) (hv : 0 ≤ v ∧ v < 100000) : kdC s = k ∧ nmC s = v := by
  unfold kdC nmC
  omega
theorem jdC_of {s : Int} {a b : Int32} (h : s = 42 ∨ s = 43 ∨ s = 45 ∨ s = 60 ∨ s = 61 ∨ s = 62 ∨ s = 9 ∨ s = 8) : jdC s a b = jnF s a b := by
  rcases h with rfl | rfl | rfl | rfl | rfl | rfl | rfl | rfl <;> rfl
/-- from p to q: the values of ds are laid on, the first one on top; d places at most -/
def CS (lw : Int) (S : Nat → Int32) (p q d : Nat) (ds : List EF) : Prop := p ≤ q ∧ (∀ j, p ≤ j → j < q → 0 ≤ (S j).toInt) ∧ ∀ (un k : Nat → Int32) (t : Nat), t + d ≤ 40 → (rnC un S (q - p) p k t).2 = t + ds.length ∧ VS (mkE lw (eC un)) (rnC un S (q - p) p k t).1 t ds ∧ ∀ j, j < t → (rnC un S (q - p) p k t).1 j = k j
theorem CS.nil {lw : Int} {S : Nat → Int32} {p d : Nat} : CS lw S p p d [] := ⟨Nat.le_refl _, fun j h1 h2 => absurd h2 (Nat.not_lt.mpr h1), fun un k t _ => by rw [Nat.sub_self]; exact ⟨rfl, trivial, fun j _ => rfl⟩⟩
theorem CS.mono {lw : Int} {S : Nat → Int32} {p q d e : Nat} {ds : List EF} (h : CS lw S p q d ds) (he : d ≤ e) : CS lw S p q e ds := ⟨h.1, h.2.1, fun un k t ht => h.2.2 un k t (by omega)⟩
theorem CS.keep {lw : Int} {S S1 : Nat → Int32} {p q d : Nat} {ds : List EF} (h : CS lw S p q d ds) (hs : ∀ j, j < q → S1 j = S j) : CS lw S1 p q d ds := by
  refine ⟨h.1, fun j h1 h2 => by rw [hs j h2]; exact h.2.1 j h1 h2, fun un k t ht => ?_⟩
  have := h.1
  rw [rnC_congr (S := S) (S1 := S1) (q - p) p k t (fun j h1 h2 => hs j (by omega))]
  exact h.2.2 un k t ht
theorem CS.val {lw : Int} {S un k : Nat → Int32} {p q d : Nat} {f : EF} (h : CS lw S p q d [f]) (hd : d ≤ 40) : vlC un S k p q = f (mkE lw (eC un)) := (h.2.2 un (up1 k 0 0) 0 (by omega)).2.1.1
theorem CS.cat {lw : Int} {S : Nat → Int32} {p m q d e D : Nat} {ds : List EF} {f : EF} (h : CS lw S p m d ds) (u : CS lw S m q e [f]) (hd : d ≤ D) (he : ds.length + e ≤ D) : CS lw S p q D (f :: ds) := by
  have h0 := h.1
  have u0 := u.1
  refine ⟨by omega, fun j h1 h2 => if c : j < m then h.2.1 j h1 c else u.2.1 j (by omega) h2, fun un k t ht => ?_⟩
  obtain ⟨h1, h2, h3⟩ := h.2.2 un k t (by omega)
  obtain ⟨u1, u2, u3⟩ := u.2.2 un (rnC un S (m - p) p k t).1 (t + ds.length) (by omega)
  rw [show q - p = (m - p) + (q - m) by omega, rnC_add, show p + (m - p) = m by omega, h1]
  refine ⟨by rw [u1]; simp only [List.length_cons, List.length_nil] <;> omega, ⟨u2.1, VS.of h2 (fun j hj => u3 j hj)⟩, fun j hj => by rw [u3 j (by omega), h3 j hj]⟩
theorem CS.unit {lw : Int} {S : Nat → Int32} {p q d D i : Nat} {ds : List EF} {kk vv : Nat → Int} (u : CS lw S p q d ds) (h : (S q).toInt = kk i * 100000 + vv i) (hv : 0 ≤ vv i ∧ vv i < 100000) (hu : UO lw (kk i)) (hd : d ≤ D) (hl : ds.length + 1 ≤ D) : CS lw S p (q + 1) D (unF kk vv i :: ds) := by
  have u0 := u.1
  refine ⟨by omega, fun j h1 h2 => ?_, fun un k t ht => ?_⟩
  · by_cases c : j = q
    · subst c; rw [h]; have hk : 0 ≤ kk i := (by unfold UO at hu; omega); omega
    · exact u.2.1 j h1 (by omega)
  obtain ⟨u1, u2, u3⟩ := u.2.2 un k t (by omega)
  obtain ⟨h1, h2⟩ := kd_of h hv
  rw [show q + 1 - p = (q - p) + 1 by omega, rnC_add, show p + (q - p) = q by omega, u1]
  have e : ∀ x : Nat → Int32, stC un (S q) x (t + ds.length) = (up1 x (t + ds.length) (unF kk vv i (mkE lw (eC un))), t + ds.length + 1) := by
    intro x
    have hc : (kdC (S q) = 24 ∨ kdC (S q) = 6 ∨ (11 ≤ kdC (S q) ∧ kdC (S q) ≤ 23)) ∧ t + ds.length < 40 := by
      rw [h1]
      refine ⟨?_, by omega⟩
      rcases hu with a | ⟨_, a⟩ | ⟨_, a⟩ <;> omega
    rw [show stC un (S q) x (t + ds.length) = (up1 x (t + ds.length) (if kdC (S q) = 24 then Int32.ofInt (nmC (S q)) else un (kdC (S q)).toNat), t + ds.length + 1) from if_pos hc, h1, h2]
    unfold unF
    by_cases c : kk i = 24
    · rw [if_pos c, if_pos c]
    · rw [if_neg c, if_neg c, mkE_y (uIx_lw hu c)]
      show _ = (up1 x (t + ds.length) (un (cIx (uIx (kk i)))), _)
      rw [cIx_u]
      rcases hu with a | ⟨_, a⟩ | ⟨_, a⟩
      · exact absurd a c
      · omega
      · omega
  rw [rnC_go (g := 0) (q := q + 1) rfl (e _) rfl]
  refine ⟨rfl, ⟨?_, VS.up u2 (Nat.le_refl _)⟩, fun j hj => ?_⟩
  · show up1 _ _ _ _ = _
    rw [up1_at]
  · show up1 _ _ _ _ = _
    rw [up1_ne (by omega), u3 j hj]
theorem CS.not {lw : Int} {S : Nat → Int32} {p q d : Nat} {ds : List EF} {f : EF} (h : CS lw S p q d (f :: ds)) (hs : (S q).toInt = 1000000) : CS lw S p (q + 1) d (ntF f :: ds) := by
  have h0 := h.1
  obtain ⟨s1, s2⟩ := kd_of (k := 10) (v := 0) hs (by decide)
  refine ⟨by omega, fun j h1 h2 => ?_, fun un k t ht => ?_⟩
  · by_cases c : j = q
    · subst c; rw [hs]; decide
    · exact h.2.1 j h1 (by omega)
  obtain ⟨h1, ⟨h2, h4⟩, h3⟩ := h.2.2 un k t ht
  rw [List.length_cons] at h1
  rw [show q + 1 - p = (q - p) + 1 by omega, rnC_add, show p + (q - p) = q by omega, h1]
  have e : ∀ x : Nat → Int32, stC un (S q) x (t + (ds.length + 1)) = (up1 x (t + ds.length) (1 - x (t + ds.length)), t + (ds.length + 1)) := by
    intro x
    unfold stC
    rw [s1, if_neg (by omega), if_pos (by omega)]
    rfl
  rw [rnC_go (g := 0) (q := q + 1) rfl (e _) rfl]
  refine ⟨rfl, ⟨?_, VS.up h4 (Nat.le_refl _)⟩, fun j hj => ?_⟩
  · show up1 _ _ _ _ = _
    rw [up1_at, h2]; rfl
  · show up1 _ _ _ _ = _
    rw [up1_ne (by omega), h3 j hj]
theorem CS.div {lw : Int} {S : Nat → Int32} {p q d i : Nat} {ds : List EF} {f : EF} {kk vv : Nat → Int} (h : CS lw S p q d (f :: ds)) (hs : (S q).toInt = 4700000 + vv i) (hk : kk i = 24) (hv : 0 < vv i ∧ vv i < 100000) : CS lw S p (q + 1) d (cbF 47 f (unF kk vv i) :: ds) := by
  have h0 := h.1
  obtain ⟨s1, s2⟩ := kd_of (k := 47) (v := vv i) hs (by omega)
  refine ⟨by omega, fun j h1 h2 => ?_, fun un k t ht => ?_⟩
  · by_cases c : j = q
    · subst c; rw [hs]; omega
    · exact h.2.1 j h1 (by omega)
  obtain ⟨h1, ⟨h2, h4⟩, h3⟩ := h.2.2 un k t ht
  rw [List.length_cons] at h1
  rw [show q + 1 - p = (q - p) + 1 by omega, rnC_add, show p + (q - p) = q by omega, h1]
  have e : ∀ x : Nat → Int32, stC un (S q) x (t + (ds.length + 1)) = (up1 x (t + ds.length) (x (t + ds.length) / Int32.ofInt (vv i)), t + (ds.length + 1)) := by
    intro x
    unfold stC
    rw [s1, s2, if_neg (by omega), if_neg (by omega), if_pos (by omega)]
    rfl
  rw [rnC_go (g := 0) (q := q + 1) rfl (e _) rfl]
  refine ⟨rfl, ⟨?_, VS.up h4 (Nat.le_refl _)⟩, fun j hj => ?_⟩
  · show up1 _ _ _ _ = _
    rw [up1_at, h2]
    show _ = f _ / (if kk i = 24 then Int32.ofInt (vv i) else _)
    rw [if_pos hk]
  · show up1 _ _ _ _ = _
    rw [up1_ne (by omega), h3 j hj]
theorem CS.bin {lw s : Int} {S : Nat → Int32} {p q d : Nat} {ds : List EF} {f g : EF} (h : CS lw S p q d (g :: f :: ds)) (hs : (S q).toInt = s * 100000) (hc : s = 42 ∨ s = 43 ∨ s = 45 ∨ s = 60 ∨ s = 61 ∨ s = 62 ∨ s = 9 ∨ s = 8) : CS lw S p (q + 1) d (cbF s f g :: ds) := by
  have h0 := h.1
  obtain ⟨s1, s2⟩ := kd_of (s := S q) (k := s) (v := 0) (by omega) (by decide)
  refine ⟨by omega, fun j h1 h2 => ?_, fun un k t ht => ?_⟩
  · by_cases c : j = q
    · subst c; rw [hs]; omega
    · exact h.2.1 j h1 (by omega)
  obtain ⟨h1, ⟨h2, h5, h4⟩, h3⟩ := h.2.2 un k t ht
  rw [List.length_cons, List.length_cons] at h1
  rw [List.length_cons] at h2
  rw [show q + 1 - p = (q - p) + 1 by omega, rnC_add, show p + (q - p) = q by omega, h1]
  have e : ∀ x : Nat → Int32, stC un (S q) x (t + (ds.length + 1 + 1)) = (up1 x (t + ds.length) (jdC s (x (t + ds.length)) (x (t + (ds.length + 1)))), t + (ds.length + 1)) := by
    intro x
    unfold stC
    rw [s1, if_neg (by omega), if_neg (by omega), if_neg (by omega), if_pos (by omega)]
    rfl
  rw [rnC_go (g := 0) (q := q + 1) rfl (e _) rfl]
  refine ⟨rfl, ⟨?_, VS.up h4 (Nat.le_refl _)⟩, fun j hj => ?_⟩
  · show up1 _ _ _ _ = _
    rw [up1_at, h2, h5, jdC_of hc]
    rfl
  · show up1 _ _ _ _ = _
    rw [up1_ne (by omega), h3 j hj]
/-! with all that stood before -/
def CSP (lw : Int) (S S0 : Nat → Int32) (p q d : Nat) (ds : List EF) : Prop := CS lw S p q d ds ∧ ∀ j, j < p → S j = S0 j
theorem CSP.nil {lw : Int} {S : Nat → Int32} {p d : Nat} : CSP lw S S p p d [] := ⟨CS.nil, fun _ _ => rfl⟩
theorem CSP.kept {lw : Int} {S S1 S0 : Nat → Int32} {p q d : Nat} {ds : List EF} (h : CSP lw S S0 p q d ds) (e : ∀ j, S1 j = S j) : CSP lw S1 S0 p q d ds := by rw [show S1 = S from funext e]; exact h
theorem CSP.cast {lw : Int} {S S0 : Nat → Int32} {p p' q q' d d' : Nat} {ds ds' : List EF} (h : CSP lw S S0 p q d ds) (hp : p' = p) (hq : q' = q) (hd : d ≤ d') (he : ds' = ds) : CSP lw S S0 p' q' d' ds' := by subst hp; subst hq; subst he; exact ⟨h.1.mono hd, h.2⟩
theorem CSP.call {lw : Int} {S S1 S0 : Nat → Int32} {p m m' q d e D : Nat} {ds : List EF} {f : EF} (h : CSP lw S S0 p m d ds) (u : CSP lw S1 S m' q e [f]) (hm : m' = m) (hd : d ≤ D) (he : ds.length + e ≤ D) : CSP lw S1 S0 p q D (f :: ds) := by
  subst hm
  have h0 := h.1.1
  exact ⟨CS.cat (h.1.keep u.2) u.1 hd he, fun j hj => (u.2 j (by omega)).trans (h.2 j hj)⟩
theorem CSP.bin {lw s : Int} {S S1 S0 : Nat → Int32} {p q q1 q' d : Nat} {ds : List EF} {f g : EF} (h : CSP lw S S0 p q d (g :: f :: ds)) (ho : ∀ j, j ≠ q' → S1 j = S j) (hs : (S1 q').toInt = s * 100000) (hc : s = 42 ∨ s = 43 ∨ s = 45 ∨ s = 60 ∨ s = 61 ∨ s = 62 ∨ s = 9 ∨ s = 8) (hq : q' = q) (h1 : q1 = q + 1) : CSP lw S1 S0 p q1 d (cbF s f g :: ds) := by
  subst hq; subst h1
  have h0 := h.1.1
  exact ⟨CS.bin (h.1.keep (fun j hj => ho j (by omega))) hs hc, fun j hj => (ho j (by omega)).trans (h.2 j hj)⟩
theorem CSP.not {lw : Int} {S S1 S0 : Nat → Int32} {p q q1 q' d : Nat} {ds : List EF} {f : EF} (h : CSP lw S S0 p q d (f :: ds)) (ho : ∀ j, j ≠ q' → S1 j = S j) (hs : (S1 q').toInt = 1000000) (hq : q' = q) (h1 : q1 = q + 1) : CSP lw S1 S0 p q1 d (ntF f :: ds) := by
  subst hq; subst h1
  have h0 := h.1.1
  exact ⟨CS.not (h.1.keep (fun j hj => ho j (by omega))) hs, fun j hj => (ho j (by omega)).trans (h.2 j hj)⟩
theorem CSP.div {lw : Int} {S S1 S0 : Nat → Int32} {p q q1 q' d i : Nat} {ds : List EF} {f : EF} {kk vv : Nat → Int} (h : CSP lw S S0 p q d (f :: ds)) (ho : ∀ j, j ≠ q' → S1 j = S j) (hs : (S1 q').toInt = 4700000 + vv i) (hk : kk i = 24) (hv : 0 < vv i ∧ vv i < 100000) (hq : q' = q) (h1 : q1 = q + 1) : CSP lw S1 S0 p q1 d (cbF 47 f (unF kk vv i) :: ds) := by
  subst hq; subst h1
  have h0 := h.1.1
  exact ⟨CS.div (h.1.keep (fun j hj => ho j (by omega))) hs hk hv, fun j hj => (ho j (by omega)).trans (h.2 j hj)⟩
theorem CSP.unit {lw : Int} {S S1 S0 : Nat → Int32} {p q q1 q' d D i : Nat} {ds : List EF} {kk vv : Nat → Int} (h : CSP lw S S0 p q d ds) (ho : ∀ j, j ≠ q' → S1 j = S j) (hs : (S1 q').toInt = kk i * 100000 + vv i) (hv : 0 ≤ vv i ∧ vv i < 100000) (hu : UO lw (kk i)) (hq : q' = q) (h1 : q1 = q + 1) (hd : d ≤ D) (hl : ds.length + 1 ≤ D) : CSP lw S1 S0 p q1 D (unF kk vv i :: ds) := by
  subst hq; subst h1
  have h0 := h.1.1
  exact ⟨CS.unit (h.1.keep (fun j hj => ho j (by omega))) hs hv hu hd hl, fun j hj => (ho j (by omega)).trans (h.2 j hj)⟩
/-! the reference's -/
def twR (o : Int) (x y : Int32) : Int32 := if o = 2 then x + y else if o = 3 then x - y else if o = 4 then x * y else if o = 5 then x / y else if o = 6 then (if x.toInt < y.toInt then 1 else 0) else if o = 7 then (if x.toInt = y.toInt then 1 else 0) else if o = 8 then (if y.toInt < x.toInt then 1 else 0) else if o = 10 then x * y else (if 0 < (x + y).toInt then 1 else 0)
def stR (as : Nat → Int32) (o a : Int32) (k : Nat → Int32) (n : Nat) : (Nat → Int32) × Nat :=
  if o.toInt = 0 ∨ o.toInt = 1 then (up1 k n (if o.toInt = 0 then a else as a.toNatClampNeg), n + 1)
  else if o.toInt = 9 then (up1 k (n - 1) (1 - k (n - 1)), n)
  else (up1 k (n - 2) (twR o.toInt (k (n - 2)) (k (n - 1))), n - 1)
def rnR (as O A : Nat → Int32) : Nat → Nat → (Nat → Int32) → Nat → (Nat → Int32) × Nat
  | 0, _, k, n => (k, n)
  | f + 1, p, k, n => rnR as O A f (p + 1) (stR as (O p) (A p) k n).1 (stR as (O p) (A p) k n).2
def vlR (as O A k : Nat → Int32) (a z : Nat) : Int32 := (rnR as O A (z - a) a k 0).1 0
theorem rnR_add {as O A : Nat → Int32} : ∀ (a b p : Nat) (k : Nat → Int32) (n : Nat), rnR as O A (a + b) p k n = rnR as O A b (p + a) (rnR as O A a p k n).1 (rnR as O A a p k n).2
  | 0, b, p, k, n => by rw [Nat.zero_add]; rfl
  | a + 1, b, p, k, n => by
    rw [show a + 1 + b = (a + b) + 1 by omega]
    show rnR as O A (a + b) (p + 1) _ _ = rnR as O A b (p + (a + 1)) (rnR as O A a (p + 1) _ _).1 (rnR as O A a (p + 1) _ _).2
    rw [rnR_add a b (p + 1), show p + 1 + a = p + (a + 1) by omega]
theorem rnR_go {as O A : Nat → Int32} {f g p q : Nat} {k k1 : Nat → Int32} {n n1 : Nat} (hf : f = g + 1) (hs : stR as (O p) (A p) k n = (k1, n1)) (hq : q = p + 1) : rnR as O A f p k n = rnR as O A g q k1 n1 := by
  subst hf; subst hq
  show rnR as O A g (p + 1) (stR as (O p) (A p) k n).1 (stR as (O p) (A p) k n).2 = _
  rw [hs]
theorem rnR_sh {as O A O1 A1 : Nat → Int32} : ∀ (f p r : Nat) (k : Nat → Int32) (n : Nat), (∀ j, j < f → O1 (r + j) = O (p + j) ∧ A1 (r + j) = A (p + j)) → rnR as O1 A1 f r k n = rnR as O A f p k n
  | 0, _, _, _, _, _ => rfl
  | f + 1, p, r, k, n, h => by
    have h0 := h 0 (by omega)
    show rnR as O1 A1 f (r + 1) (stR as (O1 r) (A1 r) k n).1 (stR as (O1 r) (A1 r) k n).2 = rnR as O A f (p + 1) (stR as (O p) (A p) k n).1 (stR as (O p) (A p) k n).2
    rw [show O1 r = O p from h0.1, show A1 r = A p from h0.2]
    refine rnR_sh f (p + 1) (r + 1) _ _ (fun j hj => ?_)
    have := h (j + 1) (by omega)
    rw [show r + 1 + j = r + (j + 1) by omega, show p + 1 + j = p + (j + 1) by omega]
    exact this
def RZ (lw : Int) (O A : Nat → Int32) (p q : Nat) (ds : List EF) : Prop := p ≤ q ∧ ∀ (as k : Nat → Int32) (n : Nat), (rnR as O A (q - p) p k n).2 = n + ds.length ∧ VS (mkE lw as) (rnR as O A (q - p) p k n).1 n ds ∧ ∀ j, j < n → (rnR as O A (q - p) p k n).1 j = k j
theorem RZ.nil {lw : Int} {O A : Nat → Int32} {p : Nat} : RZ lw O A p p [] := ⟨Nat.le_refl _, fun as k n => by rw [Nat.sub_self]; exact ⟨rfl, trivial, fun j _ => rfl⟩⟩
theorem RZ.sh {lw : Int} {O A O1 A1 : Nat → Int32} {p q r s : Nat} {ds : List EF} (h : RZ lw O A p q ds) (hs : r + q = s + p) (he : ∀ j, p + j < q → O1 (r + j) = O (p + j) ∧ A1 (r + j) = A (p + j)) : RZ lw O1 A1 r s ds := by
  have h0 := h.1
  refine ⟨by omega, fun as k n => ?_⟩
  rw [show s - r = q - p by omega, rnR_sh (O := O) (A := A) (q - p) p r k n (fun j hj => he j (by omega))]
  exact h.2 as k n
theorem RZ.keep {lw : Int} {O A O1 A1 : Nat → Int32} {p q : Nat} {ds : List EF} (h : RZ lw O A p q ds) (hO : ∀ j, j < q → O1 j = O j) (hA : ∀ j, j < q → A1 j = A j) : RZ lw O1 A1 p q ds := h.sh (by omega) (fun j hj => ⟨hO _ hj, hA _ hj⟩)
theorem RZ.cat {lw : Int} {O A : Nat → Int32} {p m q : Nat} {ds : List EF} {f : EF} (h : RZ lw O A p m ds) (u : RZ lw O A m q [f]) : RZ lw O A p q (f :: ds) := by
  have h0 := h.1
  have u0 := u.1
  refine ⟨by omega, fun as k n => ?_⟩
  obtain ⟨h1, h2, h3⟩ := h.2 as k n
  obtain ⟨u1, u2, u3⟩ := u.2 as (rnR as O A (m - p) p k n).1 (n + ds.length)
  rw [show q - p = (m - p) + (q - m) by omega, rnR_add, show p + (m - p) = m by omega, h1]
  refine ⟨by rw [u1]; simp only [List.length_cons, List.length_nil] <;> omega, ⟨u2.1, VS.of h2 (fun j hj => u3 j hj)⟩, fun j hj => by rw [u3 j (by omega), h3 j hj]⟩
theorem RZ.val {lw : Int} {O A as k : Nat → Int32} {p q : Nat} {f : EF} (h : RZ lw O A p q [f]) : vlR as O A k p q = f (mkE lw as) := (h.2 as k 0).2.1.1
theorem RZ.unit {lw : Int} {O A : Nat → Int32} {p i : Nat} {kk vv : Nat → Int} (h : ((O p).toInt = 0 ∧ (A p).toInt = vv i ∧ kk i = 24) ∨ ((O p).toInt = 1 ∧ (A p).toInt = (uIx (kk i) : Int) ∧ kk i ≠ 24 ∧ UO lw (kk i))) : RZ lw O A p (p + 1) [unF kk vv i] := by
  refine ⟨by omega, fun as k n => ?_⟩
  have e : stR as (O p) (A p) k n = (up1 k n (if (O p).toInt = 0 then A p else as (A p).toNatClampNeg), n + 1) := if_pos (by omega)
  rw [show p + 1 - p = 0 + 1 by omega, rnR_go (g := 0) (q := p + 1) rfl e rfl]
  refine ⟨rfl, ⟨?_, trivial⟩, fun j hj => up1_ne (by omega)⟩
  show up1 k n _ n = _
  rw [up1_at]
  unfold unF
  rcases h with ⟨h1, h2, h3⟩ | ⟨h1, h2, h3, h4⟩
  · rw [if_pos h1, if_pos h3, ← h2, Int32.ofInt_toInt]
  · rw [if_neg (by omega), if_neg h3, mkE_y (uIx_lw h4 h3)]
    have : (A p).toNatClampNeg = uIx (kk i) := by
      show (A p).toInt.toNat = _
      rw [h2]; rfl
    rw [this]
/-- one step more -/
theorem RZ.not {lw : Int} {O A : Nat → Int32} {p q : Nat} {ds : List EF} {f : EF} (h : RZ lw O A p q (f :: ds)) (ho : (O q).toInt = 9) : RZ lw O A p (q + 1) (ntF f :: ds) := by
  have h0 := h.1
  refine ⟨by omega, fun as k n => ?_⟩
  obtain ⟨h1, ⟨h2, h4⟩, h3⟩ := h.2 as k n
  rw [List.length_cons] at h1
  rw [show q + 1 - p = (q - p) + 1 by omega, rnR_add, show p + (q - p) = q by omega, h1]
  have e : ∀ x : Nat → Int32, stR as (O q) (A q) x (n + (ds.length + 1)) = (up1 x (n + ds.length) (1 - x (n + ds.length)), n + (ds.length + 1)) := by
    intro x
    unfold stR
    rw [if_neg (by omega), if_pos ho]
    rfl
  rw [rnR_go (g := 0) (q := q + 1) rfl (e _) rfl]
  refine ⟨rfl, ⟨?_, VS.up h4 (Nat.le_refl _)⟩, fun j hj => ?_⟩
  · show up1 _ _ _ _ = _
    rw [up1_at, h2]; rfl
  · show up1 _ _ _ _ = _
    rw [up1_ne (by omega), h3 j hj]
/-- the reference's number of a sign or a word -/
def rcd (s : Int) : Int := if s = 43 then 2 else if s = 45 then 3 else if s = 42 then 4 else if s = 47 then 5 else if s = 60 then 6 else if s = 61 then 7 else if s = 62 then 8 else if s = 9 then 10 else 11
theorem tw_an {a b : Int32} (ha : a = 0 ∨ a = 1) (hb : b = 0 ∨ b = 1) : twR 10 a b = jnF 9 a b := by
  rcases ha with rfl | rfl <;> rcases hb with rfl | rfl <;> decide
theorem tw_or {a b : Int32} (ha : a = 0 ∨ a = 1) (hb : b = 0 ∨ b = 1) : twR 11 a b = jnF 8 a b := by
  rcases ha with rfl | rfl <;> rcases hb with rfl | rfl <;> decide
theorem twR_of {s : Int} {a b : Int32} (h : s = 42 ∨ s = 47 ∨ s = 43 ∨ s = 45 ∨ s = 60 ∨ s = 61 ∨ s = 62 ∨ ((s = 9 ∨ s = 8) ∧ (a = 0 ∨ a = 1) ∧ (b = 0 ∨ b = 1))) : twR (rcd s) a b = jnF s a b := by
  rcases h with rfl | rfl | rfl | rfl | rfl | rfl | rfl | ⟨h, ha, hb⟩
  · rfl
  · rfl
  · rfl
  · rfl
  · rfl
  · rfl
  · rfl
  · rcases h with rfl | rfl
    · exact tw_an ha hb
    · exact tw_or ha hb
theorem rcd_in {s : Int} (h : s = 42 ∨ s = 47 ∨ s = 43 ∨ s = 45 ∨ s = 60 ∨ s = 61 ∨ s = 62 ∨ s = 9 ∨ s = 8) : 2 ≤ rcd s ∧ rcd s ≠ 9 := by
  rcases h with rfl | rfl | rfl | rfl | rfl | rfl | rfl | rfl | rfl <;> decide
theorem RZ.bin {lw s : Int} {O A : Nat → Int32} {p q : Nat} {ds : List EF} {f g : EF} (h : RZ lw O A p q (g :: f :: ds)) (ho : (O q).toInt = rcd s) (hc : s = 42 ∨ s = 47 ∨ s = 43 ∨ s = 45 ∨ s = 60 ∨ s = 61 ∨ s = 62 ∨ ((s = 9 ∨ s = 8) ∧ B01 f ∧ B01 g)) : RZ lw O A p (q + 1) (cbF s f g :: ds) := by
  have h0 := h.1
  have hr := rcd_in (s := s) (by rcases hc with a | a | a | a | a | a | a | ⟨a | a, _⟩ <;> omega)
  refine ⟨by omega, fun as k n => ?_⟩
  obtain ⟨h1, ⟨h2, h5, h4⟩, h3⟩ := h.2 as k n
  rw [List.length_cons, List.length_cons] at h1
  rw [List.length_cons] at h2
  rw [show q + 1 - p = (q - p) + 1 by omega, rnR_add, show p + (q - p) = q by omega, h1]
  have e : ∀ x : Nat → Int32, stR as (O q) (A q) x (n + (ds.length + 1 + 1)) = (up1 x (n + ds.length) (twR (rcd s) (x (n + ds.length)) (x (n + (ds.length + 1)))), n + (ds.length + 1)) := by
    intro x
    unfold stR
    rw [ho, if_neg (by omega), if_neg (by omega)]
    rfl
  rw [rnR_go (g := 0) (q := q + 1) rfl (e _) rfl]
  refine ⟨rfl, ⟨?_, VS.up h4 (Nat.le_refl _)⟩, fun j hj => ?_⟩
  · show up1 _ _ _ _ = _
    rw [up1_at, h2, h5]
    refine twR_of ?_
    rcases hc with a | a | a | a | a | a | a | ⟨a, b, c⟩
    · exact Or.inl a
    · exact Or.inr (Or.inl a)
    · exact Or.inr (Or.inr (Or.inl a))
    · exact Or.inr (Or.inr (Or.inr (Or.inl a)))
    · exact Or.inr (Or.inr (Or.inr (Or.inr (Or.inl a))))
    · exact Or.inr (Or.inr (Or.inr (Or.inr (Or.inr (Or.inl a)))))
    · exact Or.inr (Or.inr (Or.inr (Or.inr (Or.inr (Or.inr (Or.inl a))))))
    · exact Or.inr (Or.inr (Or.inr (Or.inr (Or.inr (Or.inr (Or.inr ⟨a, b _, c _⟩))))))
  · show up1 _ _ _ _ = _
    rw [up1_ne (by omega), h3 j hj]
/-! what waits, as the array of the reference holds it -/
def opL : CL → List EF
  | [] => []
  | (c, g) :: t => if c = 9 ∨ c = 12 then opL t else g :: opL t
def CXP (f : Nat → Int32) : CL → Nat → Prop
  | [], n => n = 0
  | (c, _) :: t, n => ∃ m : Nat, n = m + 1 ∧ (f m).toInt = c ∧ CXP f t m
/-- what waits may wait -/
def CXO : CL → Prop
  | [] => True
  | (c, g) :: t => ((c = 9 ∨ c = 12) ∨ (c = 10 ∧ B01 g ∧ hT0 t) ∨ (c = 11 ∧ B01 g ∧ hT1 t)) ∧ CXO t
theorem CXP.keep {f f1 : Nat → Int32} : ∀ {t : CL} {n : Nat}, CXP f t n → (∀ j, j < n → f1 j = f j) → CXP f1 t n
  | [], _, h, _ => h
  | (c, g) :: t, n, h, e => by
    obtain ⟨m, h1, h2, h3⟩ := h
    exact ⟨m, h1, by rw [e m (by omega)]; exact h2, h3.keep (fun j hj => e j (by omega))⟩
/-! ===== what numbers and kinds of tokens are ===== -/
/-! ===== the reference's codes come to the same ===== -/
theorem RZ.congr {lw : Int} {O A O1 A1 : Nat → Int32} {p q : Nat} {ds : List EF} (hO : ∀ j, O1 j = O j) (hA : ∀ j, A1 j = A j) (h : RZ lw O A p q ds) : RZ lw O1 A1 p q ds := h.keep (fun j _ => hO j) (fun j _ => hA j)
theorem RZ.cast {lw : Int} {O A : Nat → Int32} {p p' q q' : Nat} {ds ds' : List EF} (h : RZ lw O A p q ds) (hp : p' = p) (hq : q' = q) (he : ds' = ds) : RZ lw O A p' q' ds' := by subst hp; subst hq; subst he; exact h
theorem RZ.catc {lw : Int} {O A : Nat → Int32} {p m m' q : Nat} {ds : List EF} {f : EF} (h : RZ lw O A p m ds) (u : RZ lw O A m' q [f]) (hm : m' = m) : RZ lw O A p q (f :: ds) := by subst hm; exact h.cat u
theorem RZ.binc {lw s : Int} {O A : Nat → Int32} {p q q' : Nat} {ds : List EF} {f g : EF} (h : RZ lw O A p q (g :: f :: ds)) (hq : q' = q) (ho : (O q').toInt = rcd s) (hc : s = 42 ∨ s = 47 ∨ s = 43 ∨ s = 45 ∨ s = 60 ∨ s = 61 ∨ s = 62 ∨ ((s = 9 ∨ s = 8) ∧ B01 f ∧ B01 g)) : RZ lw O A p (q' + 1) (cbF s f g :: ds) := by subst hq; exact h.bin ho hc
theorem TV.ux {k v t x : Int} (h : TV k v t x) (e2 : t = 2) (hx : 10 ≤ x) : ((uIx k : Nat) : Int) = x - 10 := by
  unfold uIx
  rcases h.wv e2 with ⟨a, b, c⟩ | ⟨a, b⟩ | ⟨a, b, c⟩ | ⟨a, b, c⟩
  · omega
  · rw [if_pos a]; omega
  · rw [if_neg (by omega), if_pos b]; omega
  · rw [if_neg (by omega), if_neg (by omega)]; omega
theorem TV.uo {k v t x j : Int} (h : TV k v t x) (e2 : t = 2) (hx : (j = 0 ∧ 10 ≤ x ∧ x ≤ 19) ∨ (j = 1 ∧ 20 ≤ x)) : UO (1 - j) k := by
  have := h.wv e2
  unfold UO
  omega
/-- behind a unit -/
def tbF (kk vv : Nat → Int) (a : EF) (j : Nat) : EF := if kk j = 42 ∨ kk j = 47 then tmG kk vv (kk j) a (j + 1) else a
theorem tbF_un {kk vv : Nat → Int} {lw : Int} {i j : Nat} (h : i ≤ 900) (hu : unI kk lw i = some j) : tmG kk vv 0 zF i = tbF kk vv (unF kk vv i) j := by
  have e := un_at hu
  subst e
  rw [tmG_eq h]
  rfl
theorem tbF_go {kk vv : Nat → Int} {lw s : Int} {j m : Nat} {a : EF} (hj : j ≤ 800) (h : kk j = s) (hs : s = 42 ∨ s = 47) (hu : unI kk lw (j + 1) = some m) : tbF kk vv a j = tbF kk vv (cbF s a (unF kk vv (j + 1))) m := by
  have e := un_at hu
  subst e; subst h
  rw [show tbF kk vv a j = tmG kk vv (kk j) a (j + 1) from if_pos hs, tmG_eq (by omega)]
  rfl
theorem tbF_end {kk vv : Nat → Int} {j : Nat} {a : EF} (h : kk j ≠ 42 ∧ kk j ≠ 47) : tbF kk vv a j = a := if_neg (by omega)
