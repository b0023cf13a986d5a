/-! ===== texts: the tokens of a tape ===== -/
def scn (P : Nat → Bool) : Nat → Nat → Nat
  | 0, p => p
  | f + 1, p => if P p = true then scn P f (p + 1) else p
theorem scn_go {P : Nat → Bool} {p q : Nat} (h : P p = true) (hp : p < 500) (hq : q = p + 1) : scn P (500 - p) p = scn P (500 - q) q := by
  subst hq
  rw [show 500 - p = (500 - (p + 1)) + 1 by omega]
  show (if P p = true then _ else _) = _
  rw [if_pos h]
theorem scn_end {P : Nat → Bool} {p : Nat} (h : P p = false) : scn P (500 - p) p = p := by
  cases e : 500 - p with
  | zero => rfl
  | succ f =>
    show (if P p = true then _ else _) = _
    rw [if_neg (by rw [h]; decide)]
def iLt (c : Int) : Bool := decide ((97 ≤ c ∧ c ≤ 122) ∨ (65 ≤ c ∧ c ≤ 90))
def iDg (c : Int) : Bool := decide (48 ≤ c ∧ c ≤ 57)
def iSg (c : Int) : Bool := decide ((40 ≤ c ∧ c ≤ 43) ∨ c = 45 ∨ c = 47 ∨ (59 ≤ c ∧ c ≤ 62))
def iBl (c : Int) : Bool := decide (c = 32 ∨ c = 10)
def inL (L : Nat) (F : Int → Bool) (b : Nat → Int) (j : Nat) : Bool := decide (j < L) && F (b j)
theorem inL_y {L : Nat} {F : Int → Bool} {b : Nat → Int} {j : Nat} (h : j < L) (e : F (b j) = true) : inL L F b j = true := by simp [inL, h, e]
theorem inL_n {L : Nat} {F : Int → Bool} {b : Nat → Int} {j : Nat} (h : F (b j) = false) : inL L F b j = false := by simp [inL, h]
theorem inL_o {L : Nat} {F : Int → Bool} {b : Nat → Int} {j : Nat} (h : L ≤ j) : inL L F b j = false := by
  have : ¬ j < L := by omega
  simp [inL, this]
theorem iLt_y {c : Int} (h : (97 ≤ c ∧ c ≤ 122) ∨ (65 ≤ c ∧ c ≤ 90)) : iLt c = true := decide_eq_true h
theorem iLt_n {c : Int} (h : (c < 97 ∨ 122 < c) ∧ (c < 65 ∨ 90 < c)) : iLt c = false := decide_eq_false (by omega)
theorem iDg_y {c : Int} (h : 48 ≤ c ∧ c ≤ 57) : iDg c = true := decide_eq_true h
theorem iDg_n {c : Int} (h : c < 48 ∨ 57 < c) : iDg c = false := decide_eq_false (by omega)
theorem iBl_y {c : Int} (h : c = 32 ∨ c = 10) : iBl c = true := decide_eq_true h
theorem iBl_n {c : Int} (h : c ≠ 32 ∧ c ≠ 10) : iBl c = false := decide_eq_false (by omega)
theorem iSg_y {c : Int} (h : (40 ≤ c ∧ c ≤ 43) ∨ c = 45 ∨ c = 47 ∨ (59 ≤ c ∧ c ≤ 62)) : iSg c = true := decide_eq_true h
theorem iSg_n {c : Int} (h : (c < 40 ∨ 43 < c) ∧ c ≠ 45 ∧ c ≠ 47 ∧ (c < 59 ∨ 62 < c)) : iSg c = false := decide_eq_false (by omega)
def skB (b : Nat → Int) (L p : Nat) : Nat := scn (inL L iBl b) (500 - p) p
def enL (b : Nat → Int) (L p : Nat) : Nat := scn (inL L iLt b) (500 - p) p
def enD (b : Nat → Int) (L p : Nat) : Nat := scn (inL L iDg b) (500 - p) p
/-! words -/
def al (P : Nat → Bool) : Nat → Nat → Bool
  | 0, _ => true
  | f + 1, c => P c && al P f (c + 1)
theorem al_go {P : Nat → Bool} {f c d g : Nat} (h : P c = true) (hf : f = g + 1) (hd : d = c + 1) : al P f c = al P g d := by
  subst hf; subst hd
  show (P c && al P g (c + 1)) = _
  rw [h]; rfl
theorem al_no {P : Nat → Bool} {f c : Nat} (h : P c = false) (hf : 0 < f) : al P f c = false := by
  obtain ⟨g, rfl⟩ : ∃ g, f = g + 1 := ⟨f - 1, by omega⟩
  show (P c && _) = false
  rw [h]; rfl
def wdI (j : Nat) : Int := (wdB.getD j 0 &&& 255).toInt
def wMt (b : Nat → Int) (f t w c : Nat) : Bool := decide (wdI (6 * w + c) = if f + c < t then b (f + c) else 32)
def wEq (b : Nat → Int) (f t w : Nat) : Bool := al (wMt b f t w) 6 0
def wFd (b : Nat → Int) (f t : Nat) : Nat → Nat → Int
  | 0, _ => 25
  | k + 1, w => if wEq b f t w = true then (w : Int) else wFd b f t k (w + 1)
def wNo (b : Nat → Int) (f t : Nat) : Int := if t - f ≤ 6 then wFd b f t 24 0 else 25
def nmb (b : Nat → Int) : Nat → Nat → Int → Int
  | 0, _, a => a
  | k + 1, p, a => nmb b k (p + 1) (a * 10 + b p - 48)
/-! tokens: 0 .. 23 words, 24 a number, 25 a stray, 26 the end, else a sign -/
def tkK (b : Nat → Int) (L s : Nat) : Int := if L ≤ s then 26 else if iLt (b s) = true then wNo b s (enL b L (s + 1)) else if iDg (b s) = true then (if enD b L (s + 1) - s ≤ 5 then 24 else 25) else if iSg (b s) = true then b s else 25
def tkV (b : Nat → Int) (L s : Nat) : Int := if L ≤ s then 0 else if iLt (b s) = true then 0 else if iDg (b s) = true then nmb b (min (enD b L (s + 1) - s) 5) s 0 else 0
def tkN (b : Nat → Int) (L s : Nat) : Nat := if L ≤ s then s else if iLt (b s) = true then enL b L (s + 1) else if iDg (b s) = true then enD b L (s + 1) else s + 1
def pS (b : Nat → Int) (L : Nat) : Nat → Nat
  | 0 => 0
  | i + 1 => tkN b L (skB b L (pS b L i))
def kK (b : Nat → Int) (L i : Nat) : Int := tkK b L (skB b L (pS b L i))
def vV (b : Nat → Int) (L i : Nat) : Int := tkV b L (skB b L (pS b L i))
theorem wMt_y {b : Nat → Int} {f t w c : Nat} {v u : Int} (hv : wdI (6 * w + c) = v) (hu : (f + c < t ∧ b (f + c) = u) ∨ (t ≤ f + c ∧ u = 32)) (e : v = u) : wMt b f t w c = true := by
  refine decide_eq_true ?_
  rw [hv, e]
  rcases hu with ⟨h1, h2⟩ | ⟨h1, h2⟩
  · rw [if_pos h1, h2]
  · rw [if_neg (by omega), h2]
theorem wMt_n {b : Nat → Int} {f t w c : Nat} {v u : Int} (hv : wdI (6 * w + c) = v) (hu : (f + c < t ∧ b (f + c) = u) ∨ (t ≤ f + c ∧ u = 32)) (e : v ≠ u) : wMt b f t w c = false := by
  refine decide_eq_false ?_
  rw [hv]
  rcases hu with ⟨h1, h2⟩ | ⟨h1, h2⟩
  · rw [if_pos h1, h2]; exact e
  · rw [if_neg (by omega), ← h2]; exact e
theorem wFd_y {b : Nat → Int} {f t k w : Nat} (h : wEq b f t w = true) (hk : 0 < k) : wFd b f t k w = (w : Int) := by
  obtain ⟨g, rfl⟩ : ∃ g, k = g + 1 := ⟨k - 1, by omega⟩
  show (if wEq b f t w = true then _ else _) = _
  rw [if_pos h]
theorem wFd_n {b : Nat → Int} {f t k g w v : Nat} (h : wEq b f t w = false) (hk : k = g + 1) (hw : v = w + 1) : wFd b f t k w = wFd b f t g v := by
  subst hk; subst hw
  show (if wEq b f t w = true then _ else _) = _
  rw [if_neg (by rw [h]; decide)]
theorem nmb_go {b : Nat → Int} {k g p q : Nat} {a d : Int} (hk : k = g + 1) (hq : q = p + 1) (hd : d = a * 10 + b p - 48) : nmb b k p a = nmb b g q d := by subst hk; subst hq; subst hd; rfl
theorem skB_at {b : Nat → Int} {L p : Nat} (h : L ≤ p ∨ iBl (b p) = false) : skB b L p = p := scn_end (h.elim inL_o inL_n)
theorem skB_go {b : Nat → Int} {L p q : Nat} (hp : p < L) (hL : L ≤ 500) (h : iBl (b p) = true) (hq : q = p + 1) : skB b L p = skB b L q := scn_go (inL_y hp h) (by omega) hq
theorem tok_b {b : Nat → Int} {L p q i : Nat} (hs : skB b L p = skB b L (pS b L i)) (hp : p < L) (hL : L ≤ 500) (h : b p = 32 ∨ b p = 10) (hq : q = p + 1) : skB b L q = skB b L (pS b L i) := (skB_go hp hL (iBl_y h) hq).symm.trans hs
theorem tok_p {b : Nat → Int} {L p i : Nat} (hs : skB b L p = skB b L (pS b L i)) (h : L ≤ p ∨ (b p ≠ 32 ∧ b p ≠ 10)) : skB b L (pS b L i) = p := hs.symm.trans (skB_at (h.imp id iBl_n))
theorem tok_w {b : Nat → Int} {L p e i : Nat} (hs : skB b L p = skB b L (pS b L i)) (hp : p < L) (h : (97 ≤ b p ∧ b p ≤ 122) ∨ (65 ≤ b p ∧ b p ≤ 90)) (he : enL b L (p + 1) = e) : kK b L i = wNo b p e ∧ vV b L i = 0 ∧ pS b L (i + 1) = e := by
  have hk := tok_p hs (Or.inr (by omega))
  have hb := iLt_y h
  refine ⟨?_, ?_, ?_⟩
  · show tkK b L _ = _
    rw [hk]; unfold tkK; rw [if_neg (by omega), if_pos hb, he]
  · show tkV b L _ = _
    rw [hk]; unfold tkV; rw [if_neg (by omega), if_pos hb]
  · show tkN b L _ = _
    rw [hk]; unfold tkN; rw [if_neg (by omega), if_pos hb, he]
theorem tok_d {b : Nat → Int} {L p e i : Nat} (hs : skB b L p = skB b L (pS b L i)) (hp : p < L) (h : 48 ≤ b p ∧ b p ≤ 57) (he : enD b L (p + 1) = e) : kK b L i = (if e - p ≤ 5 then 24 else 25) ∧ vV b L i = nmb b (min (e - p) 5) p 0 ∧ pS b L (i + 1) = e := by
  have hk := tok_p hs (Or.inr (by omega))
  have hn : ¬ iLt (b p) = true := by rw [iLt_n (by omega)]; decide
  have hb := iDg_y h
  refine ⟨?_, ?_, ?_⟩
  · show tkK b L _ = _
    rw [hk]; unfold tkK; rw [if_neg (by omega), if_neg hn, if_pos hb, he]
  · show tkV b L _ = _
    rw [hk]; unfold tkV; rw [if_neg (by omega), if_neg hn, if_pos hb, he]
  · show tkN b L _ = _
    rw [hk]; unfold tkN; rw [if_neg (by omega), if_neg hn, if_pos hb, he]
theorem tok_s {b : Nat → Int} {L p i : Nat} {c : Int} (hs : skB b L p = skB b L (pS b L i)) (hp : p < L) (hl : (b p < 97 ∨ 122 < b p) ∧ (b p < 65 ∨ 90 < b p)) (hd : b p < 48 ∨ 57 < b p) (hb : b p ≠ 32 ∧ b p ≠ 10) (hc : (((40 ≤ b p ∧ b p ≤ 43) ∨ b p = 45 ∨ b p = 47 ∨ (59 ≤ b p ∧ b p ≤ 62)) ∧ c = b p) ∨ (((b p < 40 ∨ 43 < b p) ∧ b p ≠ 45 ∧ b p ≠ 47 ∧ (b p < 59 ∨ 62 < b p)) ∧ c = 25)) : kK b L i = c ∧ vV b L i = 0 ∧ pS b L (i + 1) = p + 1 := by
  have hk := tok_p hs (Or.inr hb)
  have hn : ¬ iLt (b p) = true := by rw [iLt_n hl]; decide
  have hm : ¬ iDg (b p) = true := by rw [iDg_n hd]; decide
  refine ⟨?_, ?_, ?_⟩
  · show tkK b L _ = _
    rw [hk]; unfold tkK; rw [if_neg (by omega), if_neg hn, if_neg hm]
    rcases hc with ⟨h1, h2⟩ | ⟨h1, h2⟩
    · rw [if_pos (iSg_y h1), h2]
    · rw [if_neg (by rw [iSg_n h1]; decide), h2]
  · show tkV b L _ = _
    rw [hk]; unfold tkV; rw [if_neg (by omega), if_neg hn, if_neg hm]
  · show tkN b L _ = _
    rw [hk]; unfold tkN; rw [if_neg (by omega), if_neg hn, if_neg hm]
theorem tok_e {b : Nat → Int} {L p i : Nat} (hs : skB b L p = skB b L (pS b L i)) (hp : L ≤ p) : kK b L i = 26 ∧ vV b L i = 0 := by
  have hk := tok_p hs (Or.inl hp)
  refine ⟨?_, ?_⟩
  · show tkK b L _ = _
    rw [hk]; unfold tkK; rw [if_pos hp]
  · show tkV b L _ = _
    rw [hk]; unfold tkV; rw [if_pos hp]
def TKP (H : Heap) (kq vq : Nat) (b : Nat → Int) (L N : Nat) : Prop := ∀ j : Nat, j < N → (fI H kq j).toInt = kK b L j ∧ (fI H vq j).toInt = vV b L j
theorem TKP.kept {H H1 : Heap} {kq vq L N : Nat} {b : Nat → Int} (h : TKP H kq vq b L N) (e1 : H1[kq]? = H[kq]?) (e2 : H1[vq]? = H[vq]?) : TKP H1 kq vq b L N := fun j hj => by
  rw [fI_kept e1, fI_kept e2]
  exact h j hj
theorem TKP.to {H : Heap} {kq vq L N M : Nat} {b : Nat → Int} (h : TKP H kq vq b L N) (e : M ≤ N) : TKP H kq vq b L M := fun j hj => h j (by omega)
theorem TKP.add {H H1 : Heap} {kq vq L N n : Nat} {b : Nat → Int} {x v : Int32} (h : TKP H kq vq b L N) (hk : ∀ j : Nat, j ≠ n → fI H1 kq j = fI H kq j) (hv : ∀ j : Nat, j ≠ n → fI H1 vq j = fI H vq j) (ek : x = fI H1 kq n) (ev : v = fI H1 vq n) (hn : n = N) (e1 : x.toInt = kK b L N) (e2 : v.toInt = vV b L N) : TKP H1 kq vq b L (N + 1) := by
  subst hn
  intro j hj
  by_cases e : j = n
  · subst e; rw [← ek, ← ev]; exact ⟨e1, e2⟩
  · rw [hk j e, hv j e]; exact h j (by omega)
theorem scn_all {P : Nat → Bool} : ∀ (f p j : Nat), p ≤ j → j < scn P f p → P j = true
  | 0, p, j, h1, h2 => absurd h2 (by show ¬ j < p; omega)
  | f + 1, p, j, h1, h2 => by
    have h2 : j < (if P p = true then scn P f (p + 1) else p) := h2
    by_cases h : P p = true
    · rw [if_pos h] at h2
      by_cases e : j = p
      · rw [e]; exact h
      · exact scn_all f (p + 1) j (by omega) h2
    · rw [if_neg h] at h2; omega
theorem enD_all {b : Nat → Int} {L p e : Nat} (he : enD b L (p + 1) = e) (h : 48 ≤ b p ∧ b p ≤ 57) : ∀ j : Nat, p ≤ j → j < e → 48 ≤ b j ∧ b j ≤ 57 := by
  intro j h1 h2
  by_cases c : j = p
  · rw [c]; exact h
  · have := scn_all (P := inL L iDg b) (500 - (p + 1)) (p + 1) j (by omega) (by rw [← he] at h2; exact h2)
    unfold inL at this
    have h3 := (Bool.and_eq_true _ _ ▸ this).2
    exact of_decide_eq_true h3
/-! ===== texts: what can stand ===== -/
def tmS (kk vv : Nat → Int) (lw : Int) : Nat → Int → Nat → Option Nat
  | 0, _, _ => none
  | 1, _, _ => none
  | f + 2, sg, i =>
    if kk i ≠ 24 ∧ (sg = 47 ∨ ((lw = 0 ∨ (kk i ≠ 6 ∧ (kk i < 11 ∨ 19 < kk i))) ∧ (lw ≠ 0 ∨ kk i < 20 ∨ 23 < kk i))) then none
    else if sg = 47 ∧ vv i = 0 then none
    else if kk (i + 1) = 42 ∨ kk (i + 1) = 47 then tmS kk vv lw f (kk (i + 1)) (i + 2)
    else some (i + 1)
def tmI (kk vv : Nat → Int) (lw sg : Int) (i : Nat) : Option Nat := tmS kk vv lw (1000 - i) sg i
theorem tmI_eq {kk vv : Nat → Int} {lw sg : Int} {i : Nat} (h : i ≤ 900) : tmI kk vv lw sg i = if kk i ≠ 24 ∧ (sg = 47 ∨ ((lw = 0 ∨ (kk i ≠ 6 ∧ (kk i < 11 ∨ 19 < kk i))) ∧ (lw ≠ 0 ∨ kk i < 20 ∨ 23 < kk i))) then none else if sg = 47 ∧ vv i = 0 then none else if kk (i + 1) = 42 ∨ kk (i + 1) = 47 then tmI kk vv lw (kk (i + 1)) (i + 2) else some (i + 1) := by
  unfold tmI
  rw [show 1000 - i = (1000 - (i + 2)) + 2 by omega]
  rfl
theorem tmS_lt {kk vv : Nat → Int} {lw : Int} : ∀ (f : Nat) (sg : Int) (i j : Nat), tmS kk vv lw f sg i = some j → i < j
  | 0, _, _, _, h => by cases h
  | 1, _, _, _, h => by cases h
  | f + 2, sg, i, j, h => by
    unfold tmS at h
    split at h
    · cases h
    · split at h
      · cases h
      · split at h
        · have := tmS_lt f _ _ _ h; omega
        · cases h; omega
theorem tmI_lt {kk vv : Nat → Int} {lw sg : Int} {i j : Nat} (h : tmI kk vv lw sg i = some j) : i < j := tmS_lt _ _ _ _ h
theorem tmI_top {kk vv : Nat → Int} {lw sg : Int} {i : Nat} (h : 1000 ≤ i) : tmI kk vv lw sg i = none := by
  unfold tmI
  rw [show 1000 - i = 0 by omega]
  rfl
/-- one p, and again while c says so of what stands behind -/
def lpS (p : Nat → Option Nat) (c : Nat → Bool) : Nat → Nat → Option Nat
  | 0, _ => none
  | f + 1, i => match p i with
    | none => none
    | some j => if c j = true then lpS p c f (j + 1) else some j
def lpI (p : Nat → Option Nat) (c : Nat → Bool) (i : Nat) : Option Nat := lpS p c (1000 - i) i
/-- a reader: goes on, and stands at the end -/
def GP (p : Nat → Option Nat) : Prop := (∀ i j, p i = some j → i < j) ∧ ∀ i, 1000 ≤ i → p i = none
theorem lpS_fuel {p : Nat → Option Nat} {c : Nat → Bool} (hp : GP p) : ∀ (f g i : Nat), 1000 - i ≤ f → 1000 - i ≤ g → lpS p c f i = lpS p c g i
  | 0, g, i, hf, hg => by
    have hi := hp.2 i (by omega)
    cases g with
    | zero => rfl
    | succ g => show none = (match p i with | none => none | some j => if c j = true then lpS p c g (j + 1) else some j); rw [hi]
  | f + 1, 0, i, hf, hg => by
    have hi := hp.2 i (by omega)
    show (match p i with | none => none | some j => if c j = true then lpS p c f (j + 1) else some j) = none
    rw [hi]
  | f + 1, g + 1, i, hf, hg => by
    show (match p i with | none => none | some j => if c j = true then lpS p c f (j + 1) else some j) = (match p i with | none => none | some j => if c j = true then lpS p c g (j + 1) else some j)
    cases e : p i with
    | none => rfl
    | some j =>
      have hj := hp.1 i j e
      show (if c j = true then lpS p c f (j + 1) else some j) = (if c j = true then lpS p c g (j + 1) else some j)
      rw [lpS_fuel hp f g (j + 1) (by omega) (by omega)]
theorem lpI_eq {p : Nat → Option Nat} {c : Nat → Bool} (hp : GP p) {i : Nat} : lpI p c i = match p i with
    | none => none
    | some j => if c j = true then lpI p c (j + 1) else some j := by
  unfold lpI
  by_cases h : 1000 ≤ i
  · rw [show 1000 - i = 0 by omega, hp.2 i h]; rfl
  · obtain ⟨f, hf⟩ : ∃ f, 1000 - i = f + 1 := ⟨1000 - i - 1, by omega⟩
    rw [hf]
    show (match p i with | none => none | some j => if c j = true then lpS p c f (j + 1) else some j) = _
    cases e : p i with
    | none => rfl
    | some j =>
      have hj := hp.1 i j e
      show (if c j = true then lpS p c f (j + 1) else some j) = (if c j = true then lpS p c (1000 - (j + 1)) (j + 1) else some j)
      rw [lpS_fuel hp f (1000 - (j + 1)) (j + 1) (by omega) (by omega)]
theorem lpS_lt {p : Nat → Option Nat} {c : Nat → Bool} (hp : GP p) : ∀ (f i j : Nat), lpS p c f i = some j → i < j
  | 0, _, _, h => by cases h
  | f + 1, i, j, h => by
    have h : (match p i with | none => none | some j => if c j = true then lpS p c f (j + 1) else some j) = some j := h
    cases e : p i with
    | none => rw [e] at h; cases h
    | some m =>
      have hm := hp.1 i m e
      rw [e] at h
      have h : (if c m = true then lpS p c f (m + 1) else some m) = some j := h
      split at h
      · have := lpS_lt hp f (m + 1) j h; omega
      · cases h; exact hm
theorem lpI_gp {p : Nat → Option Nat} {c : Nat → Bool} (hp : GP p) : GP (lpI p c) := ⟨fun i j h => lpS_lt hp _ i j h, fun i h => by unfold lpI; rw [show 1000 - i = 0 by omega]; rfl⟩
theorem tmI_gp {kk vv : Nat → Int} {lw sg : Int} : GP (tmI kk vv lw sg) := ⟨fun _ _ h => tmI_lt h, fun _ h => tmI_top h⟩
def cPM (kk : Nat → Int) (j : Nat) : Bool := decide (kk j = 43 ∨ kk j = 45)
def cAN (kk : Nat → Int) (j : Nat) : Bool := decide (kk j = 9)
def cOR (kk : Nat → Int) (j : Nat) : Bool := decide (kk j = 8)
def cAO (kk : Nat → Int) (j : Nat) : Bool := decide (kk j = 9 ∨ kk j = 8)
def smI (kk vv : Nat → Int) (lw : Int) : Nat → Option Nat := lpI (tmI kk vv lw 0) (cPM kk)
def cpI (kk vv : Nat → Int) (lw : Int) (i : Nat) : Option Nat := match smI kk vv lw i with
  | none => none
  | some j => if kk j = 60 ∨ kk j = 61 ∨ kk j = 62 then smI kk vv lw (j + 1) else none
def paS (kk vv : Nat → Int) (lw : Int) : Nat → Nat → Option Nat
  | 0, i => if kk i = 10 ∨ kk i = 40 then none else cpI kk vv lw i
  | d + 1, i => if kk i = 10 then paS kk vv lw d (i + 1) else if kk i = 40 then (match lpI (paS kk vv lw d) (cAO kk) (i + 1) with
    | none => none
    | some j => if kk j = 41 then some (j + 1) else none) else cpI kk vv lw i
theorem smI_gp {kk vv : Nat → Int} {lw : Int} : GP (smI kk vv lw) := lpI_gp tmI_gp
theorem cpI_gp {kk vv : Nat → Int} {lw : Int} : GP (cpI kk vv lw) := by
  refine ⟨fun i j h => ?_, fun i h => ?_⟩
  · unfold cpI at h
    cases e : smI kk vv lw i with
    | none => rw [e] at h; cases h
    | some m =>
      rw [e] at h
      have h : (if kk m = 60 ∨ kk m = 61 ∨ kk m = 62 then smI kk vv lw (m + 1) else none) = some j := h
      have h1 := smI_gp.1 i m e
      split at h
      · have := smI_gp.1 _ _ h; omega
      · cases h
  · unfold cpI; rw [smI_gp.2 i h]
theorem paS_gp {kk vv : Nat → Int} {lw : Int} : ∀ d : Nat, GP (paS kk vv lw d)
  | 0 => by
    refine ⟨fun i j h => ?_, fun i h => ?_⟩
    · unfold paS at h; split at h
      · cases h
      · exact cpI_gp.1 i j h
    · unfold paS; split
      · rfl
      · exact cpI_gp.2 i h
  | d + 1 => by
    have ih := paS_gp (kk := kk) (vv := vv) (lw := lw) d
    refine ⟨fun i j h => ?_, fun i h => ?_⟩
    · unfold paS at h; split at h
      · have := ih.1 _ _ h; omega
      · split at h
        · cases e : lpI (paS kk vv lw d) (cAO kk) (i + 1) with
          | none => rw [e] at h; cases h
          | some m =>
            rw [e] at h
            have h : (if kk m = 41 then some (m + 1) else none) = some j := h
            have h1 := (lpI_gp ih).1 _ _ e
            split at h
            · cases h; omega
            · cases h
        · exact cpI_gp.1 i j h
    · unfold paS; split
      · exact ih.2 _ (by omega)
      · split
        · rw [(lpI_gp ih).2 _ (by omega)]
        · exact cpI_gp.2 i h
/-- or of and is either -/
theorem lp_ao {kk : Nat → Int} {p : Nat → Option Nat} (hp : GP p) : ∀ (n i : Nat), 1000 - i ≤ n → lpI p (cAO kk) i = match lpI p (cAN kk) i with
    | none => none
    | some j => if cOR kk j = true then lpI p (cAO kk) (j + 1) else some j
  | n, i, hn => by
    rw [lpI_eq hp (c := cAO kk), lpI_eq hp (c := cAN kk)]
    cases e : p i with
    | none => rfl
    | some j =>
      have hj := hp.1 i j e
      have hi : i < 1000 := by
        by_cases h : 1000 ≤ i
        · rw [hp.2 i h] at e; cases e
        · omega
      show (if cAO kk j = true then lpI p (cAO kk) (j + 1) else some j) = (match (if cAN kk j = true then lpI p (cAN kk) (j + 1) else some j) with | none => none | some j => if cOR kk j = true then lpI p (cAO kk) (j + 1) else some j)
      by_cases h9 : kk j = 9
      · rw [if_pos (show cAO kk j = true from decide_eq_true (Or.inl h9)), if_pos (show cAN kk j = true from decide_eq_true h9)]
        cases n with
        | zero => omega
        | succ n => exact lp_ao hp n (j + 1) (by omega)
      · rw [if_neg (show ¬ cAN kk j = true from by rw [show cAN kk j = false from decide_eq_false h9]; decide)]
        show _ = (if cOR kk j = true then lpI p (cAO kk) (j + 1) else some j)
        by_cases h8 : kk j = 8
        · rw [if_pos (show cAO kk j = true from decide_eq_true (Or.inr h8)), if_pos (show cOR kk j = true from decide_eq_true h8)]
        · rw [if_neg (show ¬ cAO kk j = true from by rw [show cAO kk j = false from decide_eq_false (by omega)]; decide), if_neg (show ¬ cOR kk j = true from by rw [show cOR kk j = false from decide_eq_false h8]; decide)]
theorem lp_none {p : Nat → Option Nat} {c : Nat → Bool} {i : Nat} (hp : GP p) (h : p i = none) : lpI p c i = none := by rw [lpI_eq hp, h]
theorem lp_more {p : Nat → Option Nat} {c : Nat → Bool} {i j m : Nat} (hp : GP p) (h : p i = some j) (hc : c j = true) (hm : m = j + 1) : lpI p c i = lpI p c m := by
  subst hm
  rw [lpI_eq hp, h]
  show (if c j = true then _ else _) = _
  rw [if_pos hc]
theorem lp_end {p : Nat → Option Nat} {c : Nat → Bool} {i j : Nat} (hp : GP p) (h : p i = some j) (hc : c j = false) : lpI p c i = some j := by
  rw [lpI_eq hp, h]
  show (if c j = true then _ else _) = _
  rw [if_neg (by rw [hc]; decide)]
theorem ao_none {kk : Nat → Int} {p : Nat → Option Nat} {i : Nat} (hp : GP p) (h : lpI p (cAN kk) i = none) : lpI p (cAO kk) i = none := by rw [lp_ao hp _ i (Nat.le_refl _), h]
theorem cp_no1 {kk vv : Nat → Int} {lw : Int} {i : Nat} (h : smI kk vv lw i = none) : cpI kk vv lw i = none := by unfold cpI; rw [h]
theorem cp_no2 {kk vv : Nat → Int} {lw : Int} {i j : Nat} (h : smI kk vv lw i = some j) (hc : kk j ≠ 60 ∧ kk j ≠ 61 ∧ kk j ≠ 62) : cpI kk vv lw i = none := by
  unfold cpI
  rw [h]
  show (if _ then _ else _) = _
  rw [if_neg (by omega)]
theorem cp_go {kk vv : Nat → Int} {lw : Int} {i j m : Nat} (h : smI kk vv lw i = some j) (hc : kk j = 60 ∨ kk j = 61 ∨ kk j = 62) (hm : m = j + 1) : cpI kk vv lw i = smI kk vv lw m := by
  subst hm
  unfold cpI
  rw [h]
  show (if _ then _ else _) = _
  rw [if_pos hc]
theorem pa_cp {kk vv : Nat → Int} {lw : Int} {d i : Nat} (hc : kk i ≠ 10 ∧ kk i ≠ 40) : paS kk vv lw d i = cpI kk vv lw i := by
  cases d with
  | zero => unfold paS; rw [if_neg (by omega)]
  | succ d => unfold paS; rw [if_neg hc.1, if_neg hc.2]
theorem pa_deep {kk vv : Nat → Int} {lw : Int} {d i : Nat} (hd : d = 0) (hc : kk i = 10 ∨ kk i = 40) : paS kk vv lw d i = none := by
  subst hd
  unfold paS
  rw [if_pos hc]
/-- what a not or a ( begins -/
def opI (kk vv : Nat → Int) (lw : Int) (d : Nat) (k : Int) (i : Nat) : Option Nat := if k = 10 then paS kk vv lw d (i + 1) else (match lpI (paS kk vv lw d) (cAO kk) (i + 1) with
    | none => none
    | some j => if kk j = 41 then some (j + 1) else none)
theorem pa_op {kk vv : Nat → Int} {lw k : Int} {d e i : Nat} (hd : d = e + 1) (hk : k = kk i) (hc : kk i = 10 ∨ kk i = 40) : paS kk vv lw d i = opI kk vv lw e k i := by
  subst hd; subst hk
  unfold opI
  rw [show paS kk vv lw (e + 1) i = (if kk i = 10 then paS kk vv lw e (i + 1) else if kk i = 40 then (match lpI (paS kk vv lw e) (cAO kk) (i + 1) with | none => none | some j => if kk j = 41 then some (j + 1) else none) else cpI kk vv lw i) from rfl]
  by_cases h : kk i = 10
  · rw [if_pos h, if_pos h]
  · rw [if_neg h, if_neg h, if_pos (by omega)]
theorem op_not {kk vv : Nat → Int} {lw k : Int} {d i m : Nat} (hk : k = 10) (hm : m = i + 1) : opI kk vv lw d k i = paS kk vv lw d m := by
  subst hm
  unfold opI
  rw [if_pos hk]
theorem op_no1 {kk vv : Nat → Int} {lw k : Int} {d i m : Nat} (hk : k ≠ 10) (hm : m = i + 1) (h : lpI (paS kk vv lw d) (cAO kk) m = none) : opI kk vv lw d k i = none := by
  subst hm
  unfold opI
  rw [if_neg hk, h]
theorem op_no2 {kk vv : Nat → Int} {lw k : Int} {d i m j : Nat} (hk : k ≠ 10) (hm : m = i + 1) (h : lpI (paS kk vv lw d) (cAO kk) m = some j) (hc : kk j ≠ 41) : opI kk vv lw d k i = none := by
  subst hm
  unfold opI
  rw [if_neg hk, h]
  show (if _ then _ else _) = _
  rw [if_neg hc]
theorem op_ok {kk vv : Nat → Int} {lw k : Int} {d i m j n : Nat} (hk : k ≠ 10) (hm : m = i + 1) (h : lpI (paS kk vv lw d) (cAO kk) m = some j) (hc : kk j = 41) (hn : n = j + 1) : opI kk vv lw d k i = some n := by
  subst hm; subst hn
  unfold opI
  rw [if_neg hk, h]
  show (if _ then _ else _) = _
  rw [if_pos hc]
/-- what a reading answers: r and where it stands -/
def RQ (o : Option Nat) (r t : Int32) : Prop := (o = none ∧ r.toInt = 0) ∨ (o = some t.toNatClampNeg ∧ r.toInt = 1)
theorem RQ.no {o : Option Nat} {r t : Int32} (h : RQ o r t) (e : r.toInt = 0) : o = none := h.elim (fun z => z.1) (fun z => by have := z.2; omega)
theorem RQ.yes {o : Option Nat} {r t : Int32} (h : RQ o r t) (e : r.toInt ≠ 0) : o = some t.toNatClampNeg := h.elim (fun z => absurd z.2 e) (fun z => z.1)
theorem RQ.tr {o o1 : Option Nat} {r t : Int32} (h : RQ o r t) (e : o1 = o) : RQ o1 r t := by rw [e]; exact h
theorem lp_if {p : Nat → Option Nat} {c : Nat → Bool} {i j : Nat} (hp : GP p) (h : p i = some j) : lpI p c i = if c j = true then lpI p c (j + 1) else some j := by rw [lpI_eq hp, h]
theorem ao_if {kk : Nat → Int} {p : Nat → Option Nat} {i j : Nat} (hp : GP p) (h : lpI p (cAN kk) i = some j) : lpI p (cAO kk) i = if cOR kk j = true then lpI p (cAO kk) (j + 1) else some j := by rw [lp_ao hp _ i (Nat.le_refl _), h]
theorem if_y {c : Bool} {a b : Option Nat} (h : c = true) : (if c = true then a else b) = a := if_pos h
theorem if_n {c : Bool} {a b : Option Nat} (h : c = false) : (if c = true then a else b) = b := if_neg (by rw [h]; decide)
