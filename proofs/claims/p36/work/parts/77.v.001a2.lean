/-! ===== lines and texts ===== -/
def nmI (kk vv : Nat → Int) (lo hi : Int) (i : Nat) : Option Nat := if kk i = 24 ∧ lo ≤ vv i ∧ vv i ≤ hi then some (i + 1) else none
theorem nm_y {kk vv : Nat → Int} {lo hi : Int} {i m : Nat} (h : kk i = 24 ∧ lo ≤ vv i ∧ vv i ≤ hi) (hm : m = i + 1) : nmI kk vv lo hi i = some m := by subst hm; exact if_pos h
theorem nm_n {kk vv : Nat → Int} {lo hi : Int} {i : Nat} (h : kk i ≠ 24 ∨ vv i < lo ∨ hi < vv i) : nmI kk vv lo hi i = none := if_neg (by omega)
def hlI (kk vv : Nat → Int) (w : Int) (i : Nat) : Option Nat := if w = 3 then some i else nmI kk vv 0 2 i
def hjI (kk vv : Nat → Int) (w : Int) (i : Nat) : Option Nat := match nmI kk vv 0 15 i with
  | none => none
  | some j => match (if w = 5 then nmI kk vv 0 15 j else some j) with
    | none => none
    | some m => if w = 6 then nmI kk vv 0 99 m else nmI kk vv 1 9 m
theorem hj_no1 {kk vv : Nat → Int} {w : Int} {i : Nat} (h : nmI kk vv 0 15 i = none) : hjI kk vv w i = none := by unfold hjI; rw [h]
theorem hj_no2 {kk vv : Nat → Int} {w : Int} {i j : Nat} (h : nmI kk vv 0 15 i = some j) (hw : w = 5) (h2 : nmI kk vv 0 15 j = none) : hjI kk vv w i = none := by
  unfold hjI
  rw [h]
  show (match (if w = 5 then nmI kk vv 0 15 j else some j) with | none => none | some m => if w = 6 then nmI kk vv 0 99 m else nmI kk vv 1 9 m) = none
  rw [if_pos hw, h2]
theorem hj_go {kk vv : Nat → Int} {w : Int} {i j m : Nat} (h : nmI kk vv 0 15 i = some j) (h2 : (w = 5 ∧ nmI kk vv 0 15 j = some m) ∨ (w ≠ 5 ∧ m = j)) : hjI kk vv w i = if w = 6 then nmI kk vv 0 99 m else nmI kk vv 1 9 m := by
  unfold hjI
  rw [h]
  show (match (if w = 5 then nmI kk vv 0 15 j else some j) with | none => none | some m => if w = 6 then nmI kk vv 0 99 m else nmI kk vv 1 9 m) = _
  rcases h2 with ⟨hw, h2⟩ | ⟨hw, h2⟩
  · rw [if_pos hw, h2]
  · rw [if_neg hw, h2]
/-- a line's head and, of a law, its sum -/
def hsI (kk vv : Nat → Int) (lw w : Int) (i : Nat) : Option Nat := if lw ≠ 0 then (match hlI kk vv w i with
    | none => none
    | some j => smI kk vv lw j) else hjI kk vv w i
def wnI (kk vv : Nat → Int) (lw : Int) (j : Nat) : Option Nat := if kk j = 7 then lpI (paS kk vv lw 8) (cAO kk) (j + 1) else some j
def lnI (kk vv : Nat → Int) (lw : Int) (i : Nat) : Option Nat := if (lw ≠ 0 ∧ 3 < kk i) ∨ (lw = 0 ∧ (kk i < 4 ∨ 6 < kk i)) then none else match hsI kk vv lw (kk i) (i + 1) with
  | none => none
  | some j => match wnI kk vv lw j with
    | none => none
    | some m => if kk m = 59 then some (m + 1) else none
theorem hs_law0 {kk vv : Nat → Int} {lw w : Int} {i : Nat} (hl : lw ≠ 0) (h : hlI kk vv w i = none) : hsI kk vv lw w i = none := by unfold hsI; rw [if_pos hl, h]
theorem hs_law1 {kk vv : Nat → Int} {lw w : Int} {i j : Nat} (hl : lw ≠ 0) (h : hlI kk vv w i = some j) : hsI kk vv lw w i = smI kk vv lw j := by unfold hsI; rw [if_pos hl, h]
theorem hs_job {kk vv : Nat → Int} {lw w : Int} {i : Nat} (hl : lw = 0) : hsI kk vv lw w i = hjI kk vv w i := by unfold hsI; rw [if_neg (by omega)]
theorem ln_no0 {kk vv : Nat → Int} {lw : Int} {i : Nat} (h : (lw ≠ 0 ∧ 3 < kk i) ∨ (lw = 0 ∧ (kk i < 4 ∨ 6 < kk i))) : lnI kk vv lw i = none := if_pos h
theorem ln_no1 {kk vv : Nat → Int} {lw w : Int} {i m : Nat} (hb : (lw ≠ 0 ∧ kk i ≤ 3) ∨ (lw = 0 ∧ 4 ≤ kk i ∧ kk i ≤ 6)) (hw : w = kk i) (hm : m = i + 1) (h : hsI kk vv lw w m = none) : lnI kk vv lw i = none := by
  subst hw; subst hm
  unfold lnI
  rw [if_neg (by omega), h]
theorem ln_no2 {kk vv : Nat → Int} {lw w : Int} {i m j : Nat} (hb : (lw ≠ 0 ∧ kk i ≤ 3) ∨ (lw = 0 ∧ 4 ≤ kk i ∧ kk i ≤ 6)) (hw : w = kk i) (hm : m = i + 1) (h : hsI kk vv lw w m = some j) (h2 : wnI kk vv lw j = none) : lnI kk vv lw i = none := by
  subst hw; subst hm
  unfold lnI
  rw [if_neg (by omega), h]
  show (match wnI kk vv lw j with | none => none | some m => if kk m = 59 then some (m + 1) else none) = none
  rw [h2]
theorem ln_go {kk vv : Nat → Int} {lw w : Int} {i m j n : Nat} (hb : (lw ≠ 0 ∧ kk i ≤ 3) ∨ (lw = 0 ∧ 4 ≤ kk i ∧ kk i ≤ 6)) (hw : w = kk i) (hm : m = i + 1) (h : hsI kk vv lw w m = some j) (h2 : wnI kk vv lw j = some n) : lnI kk vv lw i = if kk n = 59 then some (n + 1) else none := by
  subst hw; subst hm
  unfold lnI
  rw [if_neg (by omega), h]
  show (match wnI kk vv lw j with | none => none | some m => if kk m = 59 then some (m + 1) else none) = _
  rw [h2]
theorem wn_no {kk vv : Nat → Int} {lw : Int} {j m : Nat} (hk : kk j = 7) (hm : m = j + 1) (h : lpI (paS kk vv lw 8) (cAO kk) m = none) : wnI kk vv lw j = none := by subst hm; unfold wnI; rw [if_pos hk, h]
theorem wn_yes {kk vv : Nat → Int} {lw : Int} {j m n : Nat} (hk : kk j = 7) (hm : m = j + 1) (h : lpI (paS kk vv lw 8) (cAO kk) m = some n) : wnI kk vv lw j = some n := by subst hm; unfold wnI; rw [if_pos hk, h]
theorem wn_0 {kk vv : Nat → Int} {lw : Int} {j : Nat} (hk : kk j ≠ 7) : wnI kk vv lw j = some j := if_neg hk
def txS (kk vv : Nat → Int) (lw : Int) : Nat → Nat → Nat → Option Nat
  | 0, _, _ => none
  | f + 1, n, i => if kk i = 26 then some n else if 16 ≤ n then none else match lnI kk vv lw i with
    | none => none
    | some j => txS kk vv lw f (n + 1) j
theorem tx_end {kk vv : Nat → Int} {lw : Int} {f n i : Nat} (hf : 0 < f) (h : kk i = 26) : txS kk vv lw f n i = some n := by
  obtain ⟨g, rfl⟩ : ∃ g, f = g + 1 := ⟨f - 1, by omega⟩
  exact if_pos h
theorem tx_no {kk vv : Nat → Int} {lw : Int} {f n i : Nat} (h : kk i ≠ 26) (h2 : 16 ≤ n ∨ lnI kk vv lw i = none) : txS kk vv lw f n i = none := by
  cases f with
  | zero => rfl
  | succ f =>
    show (if kk i = 26 then some n else if 16 ≤ n then none else match lnI kk vv lw i with | none => none | some j => txS kk vv lw f (n + 1) j) = none
    rw [if_neg h]
    by_cases hn : 16 ≤ n
    · rw [if_pos hn]
    · rw [if_neg hn, h2.resolve_left hn]
theorem tx_go {kk vv : Nat → Int} {lw : Int} {f g n m i j : Nat} (hf : f = g + 1) (h : kk i ≠ 26) (hn : n < 16) (h2 : lnI kk vv lw i = some j) (hm : m = n + 1) : txS kk vv lw f n i = txS kk vv lw g m j := by
  subst hf; subst hm
  show (if kk i = 26 then some n else if 16 ≤ n then none else match lnI kk vv lw i with | none => none | some j => txS kk vv lw g (n + 1) j) = _
  rw [if_neg h, if_neg (by omega), h2]
theorem l16_no {c : Prop} [Decidable c] {x : Option Nat} (h : x = none) : (if c then none else x) = none := by rw [h]; exact ite_self _
/-! ===== the reference's words ===== -/
/-- how many signs of the word behind place k are like those from f on -/
def rMi (b : Nat → Int) (f t k : Nat) : Nat → Nat → Nat
  | 0, i => i
  | g + 1, i => if f + i < t ∧ wdN (k + 1 + i) = b (f + i) then rMi b f t k g (i + 1) else i
def rMt (b : Nat → Int) (f t k : Nat) : Bool := decide (f + rMi b f t k 500 0 = t ∧ wdN (k + 1 + rMi b f t k 500 0) = 32)
theorem rMi_go {b : Nat → Int} {f t k g g1 i j : Nat} (h : f + i < t ∧ wdN (k + 1 + i) = b (f + i)) (hg : g = g1 + 1) (hj : j = i + 1) : rMi b f t k g i = rMi b f t k g1 j := by subst hg; subst hj; exact if_pos h
theorem rMi_end {b : Nat → Int} {f t k g i : Nat} (h : t ≤ f + i ∨ wdN (k + 1 + i) ≠ b (f + i)) : rMi b f t k g i = i := by
  cases g with
  | zero => rfl
  | succ g => exact if_neg (by omega)
theorem rMi_le {b : Nat → Int} {f t k : Nat} : ∀ (g i : Nat), i ≤ rMi b f t k g i
  | 0, i => Nat.le_refl _
  | g + 1, i => by
    show i ≤ (if f + i < t ∧ wdN (k + 1 + i) = b (f + i) then rMi b f t k g (i + 1) else i)
    have := rMi_le (b := b) (f := f) (t := t) (k := k) g (i + 1)
    split <;> omega
theorem rMi_in {b : Nat → Int} {f t k : Nat} : ∀ (g i j : Nat), i ≤ j → j < rMi b f t k g i → f + j < t ∧ wdN (k + 1 + j) = b (f + j)
  | 0, i, j, h1, h2 => absurd h2 (by show ¬ j < i; omega)
  | g + 1, i, j, h1, h2 => by
    have h2 : j < (if f + i < t ∧ wdN (k + 1 + i) = b (f + i) then rMi b f t k g (i + 1) else i) := h2
    by_cases h : f + i < t ∧ wdN (k + 1 + i) = b (f + i)
    · rw [if_pos h] at h2
      by_cases e : j = i
      · rw [e]; exact h
      · exact rMi_in g (i + 1) j (by omega) h2
    · rw [if_neg h] at h2; omega
theorem rMi_all {b : Nat → Int} {f t k n : Nat} : ∀ (g i : Nat), n ≤ i + g → i ≤ n → (∀ j, i ≤ j → j < n → f + j < t ∧ wdN (k + 1 + j) = b (f + j)) → n ≤ rMi b f t k g i
  | 0, i, h1, h2, h3 => by show n ≤ i; omega
  | g + 1, i, h1, h2, h3 => by
    show n ≤ (if f + i < t ∧ wdN (k + 1 + i) = b (f + i) then rMi b f t k g (i + 1) else i)
    by_cases e : i = n
    · subst e
      have := rMi_le (b := b) (f := f) (t := t) (k := k) g (i + 1)
      split <;> omega
    · rw [if_pos (h3 i (Nat.le_refl _) (by omega))]
      exact rMi_all g (i + 1) (by omega) (by omega) (fun j hj1 hj2 => h3 j (by omega) hj2)
/-- the word w (of n signs) stands behind place k -/
def WAt (k w n : Nat) : Prop := n ≤ 6 ∧ (∀ c, c < n → wdN (k + 1 + c) = wdI (6 * w + c) ∧ wdN (k + 1 + c) ≠ 32) ∧ wdN (k + 1 + n) = 32 ∧ ∀ c, n ≤ c → c < 6 → wdI (6 * w + c) = 32
theorem al_iff {P : Nat → Bool} : ∀ (g c : Nat), al P g c = true ↔ ∀ j, c ≤ j → j < c + g → P j = true
  | 0, c => ⟨fun _ j h1 h2 => by omega, fun _ => rfl⟩
  | g + 1, c => by
    show (P c && al P g (c + 1)) = true ↔ _
    rw [Bool.and_eq_true, al_iff g (c + 1)]
    constructor
    · intro ⟨h1, h2⟩ j hj1 hj2
      by_cases e : j = c
      · rw [e]; exact h1
      · exact h2 j (by omega) (by omega)
    · intro h
      exact ⟨h c (Nat.le_refl _) (by omega), fun j h1 h2 => h j (by omega) (by omega)⟩
theorem rMt_iff {b : Nat → Int} {f t k w n : Nat} (hw : WAt k w n) (hft : f < t) (h6 : t - f ≤ 6) (hb : ∀ j, f ≤ j → j < t → b j ≠ 32) : rMt b f t k = wEq b f t w := by
  obtain ⟨hn, h1, h2, h3⟩ := hw
  have key : rMt b f t k = true ↔ wEq b f t w = true := by
    unfold rMt wEq
    rw [decide_eq_true_iff, al_iff]
    constructor
    · intro ⟨e1, e2⟩ c _ hc
      refine decide_eq_true ?_
      have hin := rMi_in (b := b) (f := f) (t := t) (k := k) 500 0
      have hm : rMi b f t k 500 0 = n := by
        by_cases hlt : rMi b f t k 500 0 < n
        · exact absurd e2 (h1 _ hlt).2
        · by_cases hgt : n < rMi b f t k 500 0
          · have := hin n (by omega) hgt
            rw [h2] at this
            exact absurd this.2.symm (hb _ (by omega) this.1)
          · omega
      by_cases hcn : c < n
      · have := hin c (by omega) (by omega)
        rw [if_pos this.1, ← (h1 c hcn).1, this.2]
      · rw [if_neg (by omega)]
        exact h3 c (by omega) (by omega)
    · intro h
      have hg : ∀ c, c < 6 → wdI (6 * w + c) = if f + c < t then b (f + c) else 32 := fun c hc => of_decide_eq_true (h c (by omega) (by omega))
      have hlen : t = f + n := by
        by_cases hlt : f + n < t
        · have := hg n (by omega)
          rw [if_pos hlt, h3 n (Nat.le_refl _) (by omega)] at this
          exact absurd this.symm (hb _ (by omega) hlt)
        · by_cases hgt : t < f + n
          · have := hg (t - f) (by omega)
            rw [if_neg (by omega)] at this
            have h4 := h1 (t - f) (by omega)
            rw [h4.1] at h4
            exact absurd this h4.2
          · omega
      have hall : ∀ j, 0 ≤ j → j < n → f + j < t ∧ wdN (k + 1 + j) = b (f + j) := fun j _ hj => by
        have := hg j (by omega)
        rw [if_pos (by omega)] at this
        exact ⟨by omega, by rw [(h1 j hj).1, this]⟩
      have ge := rMi_all (b := b) (f := f) (t := t) (k := k) (n := n) 500 0 (by omega) (by omega) hall
      have hm : rMi b f t k 500 0 = n := by
        by_cases hgt : n < rMi b f t k 500 0
        · have := (rMi_in (b := b) (f := f) (t := t) (k := k) 500 0 n (by omega) hgt).1
          omega
        · omega
      rw [hm]
      exact ⟨hlen.symm, h2⟩
  cases e1 : rMt b f t k <;> cases e2 : wEq b f t w
  · rfl
  · rw [e1, e2] at key; exact absurd (key.mpr rfl) (by decide)
  · rw [e1, e2] at key; exact absurd (key.mp rfl) (by decide)
  · rfl
theorem rMt_long {b : Nat → Int} {f t k w n : Nat} (hw : WAt k w n) (h6 : 6 < t - f) (hb : ∀ j, f ≤ j → j < t → b j ≠ 32) : rMt b f t k = false := by
  obtain ⟨hn, h1, h2, h3⟩ := hw
  refine decide_eq_false ?_
  intro ⟨e1, e2⟩
  have := rMi_in (b := b) (f := f) (t := t) (k := k) 500 0 n (by omega) (by omega)
  rw [h2] at this
  exact absurd this.2.symm (hb _ (by omega) this.1)
def wPos (n : Nat) : Nat := [0, 5, 10, 15, 21, 27, 31, 36, 39, 43, 47, 50, 55, 59, 63, 69, 75, 81, 85, 90, 94, 98, 103, 107].getD n 0
def wCl (n : Nat) : Nat := [0, 1, 2, 3, 4, 5, 7, 8, 9, 10, 11, 12, 13, 14, 15, 16, 17, 6, 18, 19, 20, 21, 22, 23].getD n 0
def wLn (n : Nat) : Nat := [4, 4, 4, 5, 5, 3, 4, 2, 3, 3, 2, 4, 3, 3, 5, 5, 5, 3, 4, 3, 3, 4, 3, 6].getD n 0
theorem wPos_at : ∀ n : Nat, n < 24 → wLn n ≤ 6 ∧ (∀ c : Nat, c < wLn n → wdN (wPos n + 1 + c) = wdI (6 * wCl n + c) ∧ wdN (wPos n + 1 + c) ≠ 32) ∧ wdN (wPos n + 1 + wLn n) = 32 ∧ ∀ c : Nat, c < 6 → wLn n ≤ c → wdI (6 * wCl n + c) = 32 := by decide +kernel
theorem wPos_W {n : Nat} (h : n < 24) : WAt (wPos n) (wCl n) (wLn n) := by
  obtain ⟨h1, h2, h3, h4⟩ := wPos_at n h
  exact ⟨h1, h2, h3, fun c a b => h4 c b a⟩
theorem wPos_cnt : ∀ k : Nat, k < 114 → wdN k = 32 → wPos (cntW k) = k := by decide +kernel
def rWn (b : Nat → Int) (f t : Nat) : Nat → Nat → Int
  | 0, _ => -1
  | g + 1, n => if rMt b f t (wPos n) = true then (n : Int) else rWn b f t g (n + 1)
theorem rWn_y {b : Nat → Int} {f t g n : Nat} (h : rMt b f t (wPos n) = true) (hg : 0 < g) : rWn b f t g n = (n : Int) := by
  obtain ⟨k, rfl⟩ : ∃ k, g = k + 1 := ⟨g - 1, by omega⟩
  exact if_pos h
theorem rWn_n {b : Nat → Int} {f t g k n m : Nat} (h : rMt b f t (wPos n) = false) (hg : g = k + 1) (hm : m = n + 1) : rWn b f t g n = rWn b f t k m := by
  subst hg; subst hm
  exact if_neg (by rw [h]; decide)
theorem wEq_one {b : Nat → Int} {f t w v c : Nat} (hw : wEq b f t w = true) (hv : wEq b f t v = true) (hc : c < 6) : wdI (6 * w + c) = wdI (6 * v + c) := by
  have h1 := of_decide_eq_true ((al_iff 6 0).mp hw c (by omega) (by omega))
  have h2 := of_decide_eq_true ((al_iff 6 0).mp hv c (by omega) (by omega))
  rw [h1, h2]
def WM (k r : Int) : Prop := (k = 25 ∧ r = -1) ∨ (0 ≤ k ∧ k ≤ 5 ∧ r = k) ∨ (k = 6 ∧ r = 17) ∨ (7 ≤ k ∧ k ≤ 17 ∧ r = k - 1) ∨ (18 ≤ k ∧ k ≤ 23 ∧ r = k)
theorem wNo_rW {b : Nat → Int} {f t : Nat} (hft : f < t) (hb : ∀ j, f ≤ j → j < t → b j ≠ 32) : WM (wNo b f t) (rWn b f t 24 0) := by
  by_cases h6 : t - f ≤ 6
  · have e : ∀ n, n < 24 → rMt b f t (wPos n) = wEq b f t (wCl n) := fun n hn => rMt_iff (wPos_W hn) hft h6 hb
    rw [show wNo b f t = wFd b f t 24 0 from if_pos h6]
    cases c0 : wEq b f t 0 with
    | true => rw [wFd_y c0 (by decide), rWn_y ((e 0 (by decide)).trans c0) (by decide)]; unfold WM; omega
    | false =>
      rw [wFd_n (g := 23) (v := 1) c0 rfl rfl, rWn_n (k := 23) (m := 1) ((e 0 (by decide)).trans c0) rfl rfl]
      cases c1 : wEq b f t 1 with
      | true => rw [wFd_y c1 (by decide), rWn_y ((e 1 (by decide)).trans c1) (by decide)]; unfold WM; omega
      | false =>
        rw [wFd_n (g := 22) (v := 2) c1 rfl rfl, rWn_n (k := 22) (m := 2) ((e 1 (by decide)).trans c1) rfl rfl]
        cases c2 : wEq b f t 2 with
        | true => rw [wFd_y c2 (by decide), rWn_y ((e 2 (by decide)).trans c2) (by decide)]; unfold WM; omega
        | false =>
          rw [wFd_n (g := 21) (v := 3) c2 rfl rfl, rWn_n (k := 21) (m := 3) ((e 2 (by decide)).trans c2) rfl rfl]
          cases c3 : wEq b f t 3 with
          | true => rw [wFd_y c3 (by decide), rWn_y ((e 3 (by decide)).trans c3) (by decide)]; unfold WM; omega
          | false =>
            rw [wFd_n (g := 20) (v := 4) c3 rfl rfl, rWn_n (k := 20) (m := 4) ((e 3 (by decide)).trans c3) rfl rfl]
            cases c4 : wEq b f t 4 with
            | true => rw [wFd_y c4 (by decide), rWn_y ((e 4 (by decide)).trans c4) (by decide)]; unfold WM; omega
            | false =>
              rw [wFd_n (g := 19) (v := 5) c4 rfl rfl, rWn_n (k := 19) (m := 5) ((e 4 (by decide)).trans c4) rfl rfl]
              cases c5 : wEq b f t 5 with
              | true => rw [wFd_y c5 (by decide), rWn_y ((e 5 (by decide)).trans c5) (by decide)]; unfold WM; omega
              | false =>
                rw [wFd_n (g := 18) (v := 6) c5 rfl rfl, rWn_n (k := 18) (m := 6) ((e 5 (by decide)).trans c5) rfl rfl]
                cases c6 : wEq b f t 6 with
                | true =>
                  rw [wFd_y c6 (by decide)]
                  have d7 : wEq b f t 7 = false := by cases z : wEq b f t 7 with | false => rfl | true => exact absurd (wEq_one (c := 1) c6 z (by decide)) (by decide)
                  rw [rWn_n (k := 17) (m := 7) ((e 6 (by decide)).trans d7) rfl rfl]
                  have d8 : wEq b f t 8 = false := by cases z : wEq b f t 8 with | false => rfl | true => exact absurd (wEq_one (c := 0) c6 z (by decide)) (by decide)
                  rw [rWn_n (k := 16) (m := 8) ((e 7 (by decide)).trans d8) rfl rfl]
                  have d9 : wEq b f t 9 = false := by cases z : wEq b f t 9 with | false => rfl | true => exact absurd (wEq_one (c := 0) c6 z (by decide)) (by decide)
                  rw [rWn_n (k := 15) (m := 9) ((e 8 (by decide)).trans d9) rfl rfl]
                  have d10 : wEq b f t 10 = false := by cases z : wEq b f t 10 with | false => rfl | true => exact absurd (wEq_one (c := 0) c6 z (by decide)) (by decide)
                  rw [rWn_n (k := 14) (m := 10) ((e 9 (by decide)).trans d10) rfl rfl]
                  have d11 : wEq b f t 11 = false := by cases z : wEq b f t 11 with | false => rfl | true => exact absurd (wEq_one (c := 0) c6 z (by decide)) (by decide)
                  rw [rWn_n (k := 13) (m := 11) ((e 10 (by decide)).trans d11) rfl rfl]
                  have d12 : wEq b f t 12 = false := by cases z : wEq b f t 12 with | false => rfl | true => exact absurd (wEq_one (c := 0) c6 z (by decide)) (by decide)
                  rw [rWn_n (k := 12) (m := 12) ((e 11 (by decide)).trans d12) rfl rfl]
                  have d13 : wEq b f t 13 = false := by cases z : wEq b f t 13 with | false => rfl | true => exact absurd (wEq_one (c := 0) c6 z (by decide)) (by decide)
                  rw [rWn_n (k := 11) (m := 13) ((e 12 (by decide)).trans d13) rfl rfl]
                  have d14 : wEq b f t 14 = false := by cases z : wEq b f t 14 with | false => rfl | true => exact absurd (wEq_one (c := 0) c6 z (by decide)) (by decide)
                  rw [rWn_n (k := 10) (m := 14) ((e 13 (by decide)).trans d14) rfl rfl]
                  have d15 : wEq b f t 15 = false := by cases z : wEq b f t 15 with | false => rfl | true => exact absurd (wEq_one (c := 0) c6 z (by decide)) (by decide)
                  rw [rWn_n (k := 9) (m := 15) ((e 14 (by decide)).trans d15) rfl rfl]
                  have d16 : wEq b f t 16 = false := by cases z : wEq b f t 16 with | false => rfl | true => exact absurd (wEq_one (c := 0) c6 z (by decide)) (by decide)
                  rw [rWn_n (k := 8) (m := 16) ((e 15 (by decide)).trans d16) rfl rfl]
                  have d17 : wEq b f t 17 = false := by cases z : wEq b f t 17 with | false => rfl | true => exact absurd (wEq_one (c := 0) c6 z (by decide)) (by decide)
                  rw [rWn_n (k := 7) (m := 17) ((e 16 (by decide)).trans d17) rfl rfl]
                  rw [rWn_y ((e 17 (by decide)).trans c6) (by decide)]
                  unfold WM; omega
                | false =>
                  rw [wFd_n (g := 17) (v := 7) c6 rfl rfl]
                  cases c7 : wEq b f t 7 with
                  | true => rw [wFd_y c7 (by decide), rWn_y ((e 6 (by decide)).trans c7) (by decide)]; unfold WM; omega
                  | false =>
                    rw [wFd_n (g := 16) (v := 8) c7 rfl rfl, rWn_n (k := 17) (m := 7) ((e 6 (by decide)).trans c7) rfl rfl]
                    cases c8 : wEq b f t 8 with
                    | true => rw [wFd_y c8 (by decide), rWn_y ((e 7 (by decide)).trans c8) (by decide)]; unfold WM; omega
                    | false =>
                      rw [wFd_n (g := 15) (v := 9) c8 rfl rfl, rWn_n (k := 16) (m := 8) ((e 7 (by decide)).trans c8) rfl rfl]
                      cases c9 : wEq b f t 9 with
                      | true => rw [wFd_y c9 (by decide), rWn_y ((e 8 (by decide)).trans c9) (by decide)]; unfold WM; omega
                      | false =>
                        rw [wFd_n (g := 14) (v := 10) c9 rfl rfl, rWn_n (k := 15) (m := 9) ((e 8 (by decide)).trans c9) rfl rfl]
                        cases c10 : wEq b f t 10 with
                        | true => rw [wFd_y c10 (by decide), rWn_y ((e 9 (by decide)).trans c10) (by decide)]; unfold WM; omega
                        | false =>
                          rw [wFd_n (g := 13) (v := 11) c10 rfl rfl, rWn_n (k := 14) (m := 10) ((e 9 (by decide)).trans c10) rfl rfl]
                          cases c11 : wEq b f t 11 with
                          | true => rw [wFd_y c11 (by decide), rWn_y ((e 10 (by decide)).trans c11) (by decide)]; unfold WM; omega
                          | false =>
                            rw [wFd_n (g := 12) (v := 12) c11 rfl rfl, rWn_n (k := 13) (m := 11) ((e 10 (by decide)).trans c11) rfl rfl]
                            cases c12 : wEq b f t 12 with
                            | true => rw [wFd_y c12 (by decide), rWn_y ((e 11 (by decide)).trans c12) (by decide)]; unfold WM; omega
                            | false =>
                              rw [wFd_n (g := 11) (v := 13) c12 rfl rfl, rWn_n (k := 12) (m := 12) ((e 11 (by decide)).trans c12) rfl rfl]
                              cases c13 : wEq b f t 13 with
                              | true => rw [wFd_y c13 (by decide), rWn_y ((e 12 (by decide)).trans c13) (by decide)]; unfold WM; omega
                              | false =>
                                rw [wFd_n (g := 10) (v := 14) c13 rfl rfl, rWn_n (k := 11) (m := 13) ((e 12 (by decide)).trans c13) rfl rfl]
                                cases c14 : wEq b f t 14 with
                                | true => rw [wFd_y c14 (by decide), rWn_y ((e 13 (by decide)).trans c14) (by decide)]; unfold WM; omega
                                | false =>
                                  rw [wFd_n (g := 9) (v := 15) c14 rfl rfl, rWn_n (k := 10) (m := 14) ((e 13 (by decide)).trans c14) rfl rfl]
                                  cases c15 : wEq b f t 15 with
                                  | true => rw [wFd_y c15 (by decide), rWn_y ((e 14 (by decide)).trans c15) (by decide)]; unfold WM; omega
                                  | false =>
                                    rw [wFd_n (g := 8) (v := 16) c15 rfl rfl, rWn_n (k := 9) (m := 15) ((e 14 (by decide)).trans c15) rfl rfl]
                                    cases c16 : wEq b f t 16 with
                                    | true => rw [wFd_y c16 (by decide), rWn_y ((e 15 (by decide)).trans c16) (by decide)]; unfold WM; omega
                                    | false =>
                                      rw [wFd_n (g := 7) (v := 17) c16 rfl rfl, rWn_n (k := 8) (m := 16) ((e 15 (by decide)).trans c16) rfl rfl]
                                      cases c17 : wEq b f t 17 with
                                      | true => rw [wFd_y c17 (by decide), rWn_y ((e 16 (by decide)).trans c17) (by decide)]; unfold WM; omega
                                      | false =>
                                        rw [wFd_n (g := 6) (v := 18) c17 rfl rfl, rWn_n (k := 7) (m := 17) ((e 16 (by decide)).trans c17) rfl rfl]
                                        rw [rWn_n (k := 6) (m := 18) ((e 17 (by decide)).trans c6) rfl rfl]
                                        cases c18 : wEq b f t 18 with
                                        | true => rw [wFd_y c18 (by decide), rWn_y ((e 18 (by decide)).trans c18) (by decide)]; unfold WM; omega
                                        | false =>
                                          rw [wFd_n (g := 5) (v := 19) c18 rfl rfl, rWn_n (k := 5) (m := 19) ((e 18 (by decide)).trans c18) rfl rfl]
                                          cases c19 : wEq b f t 19 with
                                          | true => rw [wFd_y c19 (by decide), rWn_y ((e 19 (by decide)).trans c19) (by decide)]; unfold WM; omega
                                          | false =>
                                            rw [wFd_n (g := 4) (v := 20) c19 rfl rfl, rWn_n (k := 4) (m := 20) ((e 19 (by decide)).trans c19) rfl rfl]
                                            cases c20 : wEq b f t 20 with
                                            | true => rw [wFd_y c20 (by decide), rWn_y ((e 20 (by decide)).trans c20) (by decide)]; unfold WM; omega
                                            | false =>
                                              rw [wFd_n (g := 3) (v := 21) c20 rfl rfl, rWn_n (k := 3) (m := 21) ((e 20 (by decide)).trans c20) rfl rfl]
                                              cases c21 : wEq b f t 21 with
                                              | true => rw [wFd_y c21 (by decide), rWn_y ((e 21 (by decide)).trans c21) (by decide)]; unfold WM; omega
                                              | false =>
                                                rw [wFd_n (g := 2) (v := 22) c21 rfl rfl, rWn_n (k := 2) (m := 22) ((e 21 (by decide)).trans c21) rfl rfl]
                                                cases c22 : wEq b f t 22 with
                                                | true => rw [wFd_y c22 (by decide), rWn_y ((e 22 (by decide)).trans c22) (by decide)]; unfold WM; omega
                                                | false =>
                                                  rw [wFd_n (g := 1) (v := 23) c22 rfl rfl, rWn_n (k := 1) (m := 23) ((e 22 (by decide)).trans c22) rfl rfl]
                                                  cases c23 : wEq b f t 23 with
                                                  | true => rw [wFd_y c23 (by decide), rWn_y ((e 23 (by decide)).trans c23) (by decide)]; unfold WM; omega
                                                  | false =>
                                                    rw [wFd_n (g := 0) (v := 24) c23 rfl rfl, rWn_n (k := 0) (m := 24) ((e 23 (by decide)).trans c23) rfl rfl]
                                                    exact Or.inl ⟨rfl, rfl⟩
  · have e : ∀ n, n < 24 → rMt b f t (wPos n) = false := fun n hn => rMt_long (wPos_W hn) (by omega) hb
    rw [show wNo b f t = 25 from if_neg h6]
    rw [rWn_n (k := 23) (m := 1) (e 0 (by decide)) rfl rfl]
    rw [rWn_n (k := 22) (m := 2) (e 1 (by decide)) rfl rfl]
    rw [rWn_n (k := 21) (m := 3) (e 2 (by decide)) rfl rfl]
    rw [rWn_n (k := 20) (m := 4) (e 3 (by decide)) rfl rfl]
    rw [rWn_n (k := 19) (m := 5) (e 4 (by decide)) rfl rfl]
    rw [rWn_n (k := 18) (m := 6) (e 5 (by decide)) rfl rfl]
    rw [rWn_n (k := 17) (m := 7) (e 6 (by decide)) rfl rfl]
    rw [rWn_n (k := 16) (m := 8) (e 7 (by decide)) rfl rfl]
    rw [rWn_n (k := 15) (m := 9) (e 8 (by decide)) rfl rfl]
    rw [rWn_n (k := 14) (m := 10) (e 9 (by decide)) rfl rfl]
    rw [rWn_n (k := 13) (m := 11) (e 10 (by decide)) rfl rfl]
    rw [rWn_n (k := 12) (m := 12) (e 11 (by decide)) rfl rfl]
    rw [rWn_n (k := 11) (m := 13) (e 12 (by decide)) rfl rfl]
    rw [rWn_n (k := 10) (m := 14) (e 13 (by decide)) rfl rfl]
    rw [rWn_n (k := 9) (m := 15) (e 14 (by decide)) rfl rfl]
    rw [rWn_n (k := 8) (m := 16) (e 15 (by decide)) rfl rfl]
    rw [rWn_n (k := 7) (m := 17) (e 16 (by decide)) rfl rfl]
    rw [rWn_n (k := 6) (m := 18) (e 17 (by decide)) rfl rfl]
    rw [rWn_n (k := 5) (m := 19) (e 18 (by decide)) rfl rfl]
    rw [rWn_n (k := 4) (m := 20) (e 19 (by decide)) rfl rfl]
    rw [rWn_n (k := 3) (m := 21) (e 20 (by decide)) rfl rfl]
    rw [rWn_n (k := 2) (m := 22) (e 21 (by decide)) rfl rfl]
    rw [rWn_n (k := 1) (m := 23) (e 22 (by decide)) rfl rfl]
    rw [rWn_n (k := 0) (m := 24) (e 23 (by decide)) rfl rfl]
    exact Or.inl ⟨rfl, rfl⟩
/-! ===== the reference's tokens ===== -/
def TV (k v t x : Int) : Prop := (k = 26 ∧ t = 0) ∨ (k = 25 ∧ t = 1) ∨ (t = 2 ∧ ((0 ≤ k ∧ k ≤ 5 ∧ x = k) ∨ (k = 6 ∧ x = 17) ∨ (7 ≤ k ∧ k ≤ 17 ∧ x = k - 1) ∨ (18 ≤ k ∧ k ≤ 23 ∧ x = k))) ∨ (k = 24 ∧ t = 3 ∧ x = v) ∨ (27 ≤ k ∧ t = 4 ∧ x = k)
theorem tv_end {b : Nat → Int} {L s : Nat} {x : Int} (h : L ≤ s) : TV (tkK b L s) (tkV b L s) 0 x ∧ tkN b L s = s := ⟨Or.inl ⟨if_pos h, rfl⟩, if_pos h⟩
theorem tv_word {b : Nat → Int} {L s e : Nat} {t r : Int} (h : s < L) (hl : (97 ≤ b s ∧ b s ≤ 122) ∨ (65 ≤ b s ∧ b s ≤ 90)) (he : enL b L (s + 1) = e) (hw : WM (wNo b s e) r) (ht : (t = 2 ∧ r ≠ -1) ∨ (t = 1 ∧ r = -1)) : TV (tkK b L s) (tkV b L s) t r ∧ tkN b L s = e := by
  have h1 : tkK b L s = wNo b s e := by unfold tkK; rw [if_neg (by omega), if_pos (iLt_y hl), he]
  have h2 : tkN b L s = e := by unfold tkN; rw [if_neg (by omega), if_pos (iLt_y hl), he]
  refine ⟨?_, h2⟩
  rw [h1]
  rcases hw with ⟨c, d⟩ | ⟨c, d, f⟩ | ⟨c, d⟩ | ⟨c, d, f⟩ | ⟨c, d, f⟩
  · exact Or.inr (Or.inl ⟨c, by omega⟩)
  · exact Or.inr (Or.inr (Or.inl ⟨by omega, Or.inl ⟨c, d, f⟩⟩))
  · exact Or.inr (Or.inr (Or.inl ⟨by omega, Or.inr (Or.inl ⟨c, d⟩)⟩))
  · exact Or.inr (Or.inr (Or.inl ⟨by omega, Or.inr (Or.inr (Or.inl ⟨c, d, f⟩))⟩))
  · exact Or.inr (Or.inr (Or.inl ⟨by omega, Or.inr (Or.inr (Or.inr ⟨c, d, f⟩))⟩))
theorem tv_num {b : Nat → Int} {L s e : Nat} {t x : Int} (h : s < L) (hd : 48 ≤ b s ∧ b s ≤ 57) (he : enD b L (s + 1) = e) (ht : (e - s ≤ 5 ∧ t = 3 ∧ x = nmb b (e - s) s 0) ∨ (5 < e - s ∧ t = 1)) : TV (tkK b L s) (tkV b L s) t x ∧ tkN b L s = e := by
  have hn : ¬ iLt (b s) = true := by rw [iLt_n (by omega)]; decide
  have h1 : tkK b L s = if e - s ≤ 5 then 24 else 25 := by unfold tkK; rw [if_neg (by omega), if_neg hn, if_pos (iDg_y hd), he]
  have h2 : tkN b L s = e := by unfold tkN; rw [if_neg (by omega), if_neg hn, if_pos (iDg_y hd), he]
  have h3 : tkV b L s = nmb b (min (e - s) 5) s 0 := by unfold tkV; rw [if_neg (by omega), if_neg hn, if_pos (iDg_y hd), he]
  refine ⟨?_, h2⟩
  rcases ht with ⟨c, e1, e2⟩ | ⟨c, e1⟩
  · rw [h1, if_pos c, h3, show min (e - s) 5 = e - s by omega]
    exact Or.inr (Or.inr (Or.inr (Or.inl ⟨rfl, e1, e2⟩)))
  · rw [h1, if_neg (by omega)]
    exact Or.inr (Or.inl ⟨rfl, e1⟩)
theorem tv_sign {b : Nat → Int} {L s : Nat} {t x : Int} (h : s < L) (hl : (b s < 97 ∨ 122 < b s) ∧ (b s < 65 ∨ 90 < b s)) (hd : b s < 48 ∨ 57 < b s) (ht : (((40 ≤ b s ∧ b s ≤ 43) ∨ b s = 45 ∨ b s = 47 ∨ (59 ≤ b s ∧ b s ≤ 62)) ∧ t = 4 ∧ x = b s) ∨ (((b s < 40 ∨ 43 < b s) ∧ b s ≠ 45 ∧ b s ≠ 47 ∧ (b s < 59 ∨ 62 < b s)) ∧ t = 1)) : TV (tkK b L s) (tkV b L s) t x ∧ tkN b L s = s + 1 := by
  have hn : ¬ iLt (b s) = true := by rw [iLt_n hl]; decide
  have hm : ¬ iDg (b s) = true := by rw [iDg_n hd]; decide
  have h2 : tkN b L s = s + 1 := by unfold tkN; rw [if_neg (by omega), if_neg hn, if_neg hm]
  refine ⟨?_, h2⟩
  rcases ht with ⟨c, e1, e2⟩ | ⟨c, e1⟩
  · have h1 : tkK b L s = b s := by unfold tkK; rw [if_neg (by omega), if_neg hn, if_neg hm, if_pos (iSg_y c)]
    rw [h1]; exact Or.inr (Or.inr (Or.inr (Or.inr ⟨by omega, e1, e2⟩)))
  · have h1 : tkK b L s = 25 := by unfold tkK; rw [if_neg (by omega), if_neg hn, if_neg hm, if_neg (by rw [iSg_n c]; decide)]
    rw [h1]; exact Or.inr (Or.inl ⟨rfl, e1⟩)
theorem enL_all {b : Nat → Int} {L p e : Nat} (he : enL b L (p + 1) = e) (h : (97 ≤ b p ∧ b p ≤ 122) ∨ (65 ≤ b p ∧ b p ≤ 90)) : ∀ j : Nat, p ≤ j → j < e → b j ≠ 32 := by
  intro j h1 h2
  by_cases c : j = p
  · rw [c]; omega
  · have := scn_all (P := inL L iLt b) (500 - (p + 1)) (p + 1) j (by omega) (by rw [← he] at h2; exact h2)
    unfold inL at this
    have h3 := (Bool.and_eq_true _ _ ▸ this).2
    have h4 := of_decide_eq_true h3
    omega
theorem nmb_snoc {b : Nat → Int} : ∀ (k p : Nat) (a : Int), nmb b (k + 1) p a = nmb b k p a * 10 + b (p + k) - 48
  | 0, p, a => rfl
  | k + 1, p, a => by
    show nmb b (k + 1) (p + 1) (a * 10 + b p - 48) = nmb b k (p + 1) (a * 10 + b p - 48) * 10 + b (p + (k + 1)) - 48
    rw [nmb_snoc k (p + 1), show p + 1 + k = p + (k + 1) by omega]
theorem nmb_at {b : Nat → Int} {k g p : Nat} {v w c : Int} (h : nmb b k p 0 = v) (hg : g = k + 1) (hc : b (p + k) = c) (hw : w = 10 * v + c - 48) : nmb b g p 0 = w := by
  subst hg
  rw [nmb_snoc, h, hc, hw]
  omega
/-! ===== the reference's cursor ===== -/
def CU (b : Nat → Int) (L i : Nat) (fr sp tk vl : Int32) : Prop := skB b L (pS b L i) = fr.toNatClampNeg ∧ pS b L (i + 1) = sp.toNatClampNeg ∧ TV (kK b L i) (vV b L i) tk.toInt vl.toInt ∧ i ≤ fr.toNatClampNeg
theorem CU.next {b : Nat → Int} {L i : Nat} {fr sp tk vl fr1 sp1 tk1 vl1 : Int32} (h : CU b L i fr sp tk vl) (r1 : skB b L sp.toNatClampNeg = fr1.toNatClampNeg) (r2 : tkN b L (skB b L sp.toNatClampNeg) = sp1.toNatClampNeg) (r3 : TV (tkK b L (skB b L sp.toNatClampNeg)) (tkV b L (skB b L sp.toNatClampNeg)) tk1.toInt vl1.toInt) (hb : fr.toNatClampNeg < fr1.toNatClampNeg) : CU b L (i + 1) fr1 sp1 tk1 vl1 := by
  obtain ⟨_, e, _, h4⟩ := h
  rw [← e] at r1 r2 r3
  exact ⟨r1, r2, r3, by omega⟩
theorem TV.sg {k v t x c : Int} (h : TV k v t x) (hc : 27 ≤ c) : (t = 4 ∧ x = c) ↔ k = c := by
  rcases h with ⟨a, e⟩ | ⟨a, e⟩ | ⟨e, a⟩ | ⟨a, e, _⟩ | ⟨a, e, f⟩ <;> constructor <;> intro h <;> omega
theorem TV.nm {k v t x : Int} (h : TV k v t x) : t = 3 ↔ k = 24 := by
  rcases h with ⟨a, e⟩ | ⟨a, e⟩ | ⟨e, a⟩ | ⟨a, e, _⟩ | ⟨a, e, f⟩ <;> constructor <;> intro h <;> omega
theorem TV.nv {k v t x : Int} (h : TV k v t x) (e3 : t = 3) : x = v := by
  rcases h with ⟨a, e⟩ | ⟨a, e⟩ | ⟨e, a⟩ | ⟨a, e, f⟩ | ⟨a, e, f⟩ <;> omega
/-- a word of the reference by the class's number -/
theorem TV.wd {k v t x : Int} (h : TV k v t x) : t = 2 ↔ (0 ≤ k ∧ k ≤ 23) := by
  rcases h with ⟨a, e⟩ | ⟨a, e⟩ | ⟨e, a⟩ | ⟨a, e, _⟩ | ⟨a, e, f⟩ <;> constructor <;> intro h <;> omega
theorem TV.wv {k v t x : Int} (h : TV k v t x) (e2 : t = 2) : (0 ≤ k ∧ k ≤ 5 ∧ x = k) ∨ (k = 6 ∧ x = 17) ∨ (7 ≤ k ∧ k ≤ 17 ∧ x = k - 1) ∨ (18 ≤ k ∧ k ≤ 23 ∧ x = k) := by
  rcases h with ⟨a, e⟩ | ⟨a, e⟩ | ⟨e, a⟩ | ⟨a, e, _⟩ | ⟨a, e, f⟩
  · omega
  · omega
  · exact a
  · omega
  · omega
/-- what a reading of the reference answers: r and where it stands -/
def RC (o : Option Nat) (r : Int32) (b : Nat → Int) (L : Nat) (fr sp tk vl : Int32) : Prop := (o = none ∧ r.toInt = -1) ∨ ∃ j : Nat, o = some j ∧ r.toInt ≠ -1 ∧ CU b L j fr sp tk vl
theorem RC.no {o : Option Nat} {r : Int32} {b : Nat → Int} {L : Nat} {fr sp tk vl : Int32} (h : RC o r b L fr sp tk vl) (e : r.toInt = -1) : o = none := h.elim (fun z => z.1) (fun ⟨_, _, z, _⟩ => absurd e z)
theorem RC.yes {o : Option Nat} {r : Int32} {b : Nat → Int} {L : Nat} {fr sp tk vl : Int32} (h : RC o r b L fr sp tk vl) (e : r.toInt ≠ -1) : ∃ j : Nat, o = some j ∧ CU b L j fr sp tk vl := h.elim (fun z => absurd z.2 e) (fun ⟨j, h1, _, h3⟩ => ⟨j, h1, h3⟩)
/-- one unit -/
def unI (kk : Nat → Int) (lw : Int) (i : Nat) : Option Nat := if kk i ≠ 24 ∧ ((lw = 0 ∨ (kk i ≠ 6 ∧ (kk i < 11 ∨ 19 < kk i))) ∧ (lw ≠ 0 ∨ kk i < 20 ∨ 23 < kk i)) then none else some (i + 1)
/-- behind a unit -/
def tbI (kk vv : Nat → Int) (lw : Int) (j : Nat) : Option Nat := if kk j = 42 ∨ kk j = 47 then tmI kk vv lw (kk j) (j + 1) else some j
theorem tm_un0 {kk vv : Nat → Int} {lw : Int} {i : Nat} (h : i ≤ 900) (hu : unI kk lw i = none) : tmI kk vv lw 0 i = none := by
  unfold unI at hu
  split at hu
  · rename_i c; rw [tmI_eq h, if_pos ⟨c.1, Or.inr c.2⟩]
  · cases hu
theorem tm_un1 {kk vv : Nat → Int} {lw : Int} {i j : Nat} (h : i ≤ 900) (hu : unI kk lw i = some j) : tmI kk vv lw 0 i = tbI kk vv lw j := by
  unfold unI at hu
  split at hu
  · cases hu
  · rename_i c
    cases hu
    rw [tmI_eq h, if_neg (fun z => c ⟨z.1, z.2.resolve_left (by decide)⟩), if_neg (fun z => by have := z.1; omega)]
    rfl
theorem tb_end {kk vv : Nat → Int} {lw : Int} {j : Nat} (h : kk j ≠ 42 ∧ kk j ≠ 47) : tbI kk vv lw j = some j := if_neg (by omega)
/-- times a unit -/
theorem tb_t0 {kk vv : Nat → Int} {lw : Int} {j : Nat} (hj : j ≤ 800) (h : kk j = 42) (hu : unI kk lw (j + 1) = none) : tbI kk vv lw j = none := by
  unfold unI at hu
  split at hu
  · rename_i c
    unfold tbI
    rw [if_pos (Or.inl h), tmI_eq (by omega), if_pos ⟨c.1, Or.inr c.2⟩]
  · cases hu
theorem tb_t1 {kk vv : Nat → Int} {lw : Int} {j m : Nat} (hj : j ≤ 800) (h : kk j = 42) (hu : unI kk lw (j + 1) = some m) : tbI kk vv lw j = tbI kk vv lw m := by
  unfold unI at hu
  split at hu
  · cases hu
  · rename_i c
    cases hu
    rw [show tbI kk vv lw j = tmI kk vv lw (kk j) (j + 1) from if_pos (Or.inl h), tmI_eq (by omega), if_neg (fun z => c ⟨z.1, z.2.resolve_left (by omega)⟩), if_neg (fun z => by have := z.1; omega)]
    rfl
/-- by a number -/
theorem tb_d0 {kk vv : Nat → Int} {lw : Int} {j : Nat} (hj : j ≤ 800) (h : kk j = 47) (hn : kk (j + 1) ≠ 24 ∨ (kk (j + 1) = 24 ∧ vv (j + 1) = 0)) : tbI kk vv lw j = none := by
  rw [show tbI kk vv lw j = tmI kk vv lw (kk j) (j + 1) from if_pos (Or.inr h), tmI_eq (by omega)]
  rcases hn with hn | ⟨hn, hz⟩
  · rw [if_pos ⟨hn, Or.inl h⟩]
  · rw [if_neg (fun z => z.1 hn), if_pos ⟨h, hz⟩]
theorem tb_d1 {kk vv : Nat → Int} {lw : Int} {j : Nat} (hj : j ≤ 800) (h : kk j = 47) (hn : kk (j + 1) = 24) (hz : vv (j + 1) ≠ 0) : tbI kk vv lw j = tbI kk vv lw (j + 2) := by
  rw [show tbI kk vv lw j = tmI kk vv lw (kk j) (j + 1) from if_pos (Or.inr h), tmI_eq (by omega), if_neg (fun z => z.1 hn), if_neg (fun z => hz z.2)]
  rfl
theorem un_nm {kk : Nat → Int} {lw : Int} {i : Nat} (h : kk i = 24) : unI kk lw i = some (i + 1) := if_neg (fun z => z.1 h)
theorem un_at {kk : Nat → Int} {lw : Int} {i j : Nat} (h : unI kk lw i = some j) : j = i + 1 := by
  unfold unI at h
  split at h
  · cases h
  · cases h; rfl
/-! ===== the reference's conditions: what waits ===== -/
/-- the open nots (false) and brackets (true), the latest first -/
def mkL (f : Nat → Int32) : Nat → List Bool
  | 0 => []
  | n + 1 => if (f n).toInt = 9 then false :: mkL f n else if (f n).toInt = 12 then true :: mkL f n else mkL f n
theorem mkL_len {f : Nat → Int32} : ∀ n : Nat, (mkL f n).length = cO f n
  | 0 => rfl
  | n + 1 => by
    have ih := mkL_len (f := f) n
    rw [mkL, cO]
    by_cases h : (f n).toInt = 9
    · rw [if_pos h, if_pos (Or.inl h), List.length_cons, ih]
    · rw [if_neg h]
      by_cases g : (f n).toInt = 12
      · rw [if_pos g, if_pos (Or.inr g), List.length_cons, ih]
      · rw [if_neg g, if_neg (fun z => z.elim h g), ih]; rfl
theorem mkL_congr {f f1 : Nat → Int32} : ∀ n : Nat, (∀ j, j < n → f1 j = f j) → mkL f1 n = mkL f n := by
  intro n
  induction n with
  | zero => intro _; rfl
  | succ n ih => intro e; rw [mkL, mkL, ih (fun j hj => e j (by omega)), e n (by omega)]
theorem mkL_9 {f : Nat → Int32} {n m : Nat} (hm : m = n + 1) (h : (f n).toInt = 9) : mkL f m = false :: mkL f n := by subst hm; rw [mkL, if_pos h]
theorem mkL_12 {f : Nat → Int32} {n m : Nat} (hm : m = n + 1) (h : (f n).toInt = 12) : mkL f m = true :: mkL f n := by subst hm; rw [mkL, if_neg (by omega), if_pos h]
theorem mkL_x {f : Nat → Int32} {n m : Nat} (hm : m = n + 1) (h : (f n).toInt = 10 ∨ (f n).toInt = 11) : mkL f m = mkL f n := by subst hm; rw [mkL, if_neg (by omega), if_neg (by omega)]
/-- without the nots on top -/
def dN : List Bool → List Bool
  | false :: t => dN t
  | t => t
theorem dN_step {f : Nat → Int32} {n m : Nat} (hm : m = n + 1) (h : (f n).toInt ≠ 12) : dN (mkL f m) = dN (mkL f n) := by
  subst hm
  rw [mkL]
  by_cases g : (f n).toInt = 9
  · rw [if_pos g]; rfl
  · rw [if_neg g, if_neg h]
theorem dN_le : ∀ t : List Bool, (dN t).length ≤ t.length
  | [] => Nat.le_refl _
  | true :: _ => Nat.le_refl _
  | false :: t => Nat.le_succ_of_le (dN_le t)
theorem dN_len : ∀ {s t : List Bool}, dN s = t → s.length = t.length → s = t
  | [], _, h, _ => h
  | true :: _, _, h, _ => h
  | false :: s, t, h, e => by
    have := dN_le s
    have h : dN s = t := h
    rw [h] at this
    rw [List.length_cons] at e
    omega
/-- no not on top -/
def nh : List Bool → Bool
  | false :: _ => false
  | _ => true
theorem dN_nh : ∀ {t : List Bool}, nh t = true → dN t = t
  | [], _ => rfl
  | true :: _, _ => rfl
  | false :: _, h => by cases h
theorem nh_0 {f : Nat → Int32} : ∀ {n : Nat}, PD f n → (n = 0 ∨ (f (n - 1)).toInt ≠ 9) → nh (mkL f n) = true
  | 0, _, _ => rfl
  | n + 1, hp, ht => by
    have h9 : (f n).toInt ≠ 9 := ht.resolve_left (by omega)
    have hn := hp n (by omega)
    rw [mkL, if_neg h9]
    by_cases g : (f n).toInt = 12
    · rw [if_pos g]; rfl
    · rw [if_neg g]
      refine nh_0 (hp.pre (by omega)) ?_
      rcases hn.1 with q | q | q | q
      · exact absurd q h9
      · rcases hn.2.1 with z | z | z | z
        · exact absurd q z
        · exact Or.inl z
        · exact Or.inr (by omega)
        · exact Or.inr (by omega)
      · rcases hn.2.2 with z | z | z
        · exact absurd q z
        · exact Or.inl z
        · exact Or.inr (by omega)
      · exact absurd q g
theorem nh_K {f : Nat → Int32} : ∀ {n : Nat}, nh (mkL f n) = true → cK f n = 0 → mkL f n = []
  | 0, _, _ => rfl
  | n + 1, h, hk => by
    rw [cK] at hk
    rw [mkL] at h ⊢
    by_cases g : (f n).toInt = 9
    · rw [if_pos g] at h; cases h
    · rw [if_neg g] at h ⊢
      by_cases q : (f n).toInt = 12
      · rw [if_pos q] at hk; omega
      · rw [if_neg q] at h hk ⊢; exact nh_K h hk
theorem nh_br {f : Nat → Int32} : ∀ {n : Nat}, nh (mkL f n) = true → cK f n ≠ 0 → ∃ t, mkL f n = true :: t
  | 0, _, hk => absurd rfl hk
  | n + 1, h, hk => by
    rw [cK] at hk
    rw [mkL] at h ⊢
    by_cases g : (f n).toInt = 9
    · rw [if_pos g] at h; cases h
    · rw [if_neg g] at h ⊢
      by_cases q : (f n).toInt = 12
      · rw [if_pos q]; exact ⟨_, rfl⟩
      · rw [if_neg q] at h hk ⊢; exact nh_br h hk
/-- behind an operand -/
def aoI (kk vv : Nat → Int) (lw : Int) (d j : Nat) : Option Nat := if cAO kk j = true then lpI (paS kk vv lw d) (cAO kk) (j + 1) else some j
def coI (kk vv : Nat → Int) (lw : Int) : List Bool → Nat → Option Nat
  | [], j => aoI kk vv lw 8 j
  | false :: t, j => coI kk vv lw t j
  | true :: t, j => match aoI kk vv lw (7 - t.length) j with
    | none => none
    | some m => if kk m = 41 then coI kk vv lw t (m + 1) else none
/-- an operand is due -/
def duI (kk vv : Nat → Int) (lw : Int) (t : List Bool) (i : Nat) : Option Nat := match paS kk vv lw (8 - t.length) i with
  | none => none
  | some j => coI kk vv lw t j
theorem du_0 {kk vv : Nat → Int} {lw : Int} {i : Nat} : lpI (paS kk vv lw 8) (cAO kk) i = duI kk vv lw [] i := by rw [lpI_eq (paS_gp 8)]; rfl
theorem du_not {kk vv : Nat → Int} {lw : Int} {t : List Bool} {i : Nat} (hl : t.length < 8) (h : kk i = 10) : duI kk vv lw t i = duI kk vv lw (false :: t) (i + 1) := by
  unfold duI
  rw [List.length_cons, show 8 - t.length = (8 - (t.length + 1)) + 1 by omega]
  rw [show paS kk vv lw (8 - (t.length + 1) + 1) i = paS kk vv lw (8 - (t.length + 1)) (i + 1) from if_pos h]
  rfl
theorem du_br {kk vv : Nat → Int} {lw : Int} {t : List Bool} {i : Nat} (hl : t.length < 8) (h : kk i = 40) : duI kk vv lw t i = duI kk vv lw (true :: t) (i + 1) := by
  unfold duI
  rw [List.length_cons, show 8 - t.length = (7 - t.length) + 1 by omega, show 8 - (t.length + 1) = 7 - t.length by omega]
  rw [show paS kk vv lw (7 - t.length + 1) i = (match lpI (paS kk vv lw (7 - t.length)) (cAO kk) (i + 1) with | none => none | some j => if kk j = 41 then some (j + 1) else none) from (if_neg (by omega)).trans (if_pos h)]
  rw [lpI_eq (paS_gp _)]
  cases e : paS kk vv lw (7 - t.length) (i + 1) with
  | none => rfl
  | some j =>
    show _ = (match aoI kk vv lw (7 - t.length) j with | none => none | some m => if kk m = 41 then coI kk vv lw t (m + 1) else none)
    show (match (match aoI kk vv lw (7 - t.length) j with | none => none | some j => if kk j = 41 then some (j + 1) else none) with | none => none | some j => coI kk vv lw t j) = _
    cases aoI kk vv lw (7 - t.length) j with
    | none => rfl
    | some m =>
      show (match (if kk m = 41 then some (m + 1) else none) with | none => none | some j => coI kk vv lw t j) = if kk m = 41 then coI kk vv lw t (m + 1) else none
      by_cases g : kk m = 41
      · rw [if_pos g, if_pos g]
      · rw [if_neg g, if_neg g]
theorem du_deep {kk vv : Nat → Int} {lw : Int} {t : List Bool} {i : Nat} (hl : t.length = 8) (h : kk i = 10 ∨ kk i = 40) : duI kk vv lw t i = none := by
  unfold duI
  rw [pa_deep (by omega) h]
theorem du_no {kk vv : Nat → Int} {lw : Int} {t : List Bool} {i : Nat} (hk : kk i ≠ 10 ∧ kk i ≠ 40) (h : cpI kk vv lw i = none) : duI kk vv lw t i = none := by
  unfold duI
  rw [pa_cp hk, h]
theorem du_cp {kk vv : Nat → Int} {lw : Int} {t : List Bool} {i j : Nat} (hk : kk i ≠ 10 ∧ kk i ≠ 40) (h : cpI kk vv lw i = some j) : duI kk vv lw t i = coI kk vv lw t j := by
  unfold duI
  rw [pa_cp hk, h]
theorem co_dN {kk vv : Nat → Int} {lw : Int} {j : Nat} : ∀ t : List Bool, coI kk vv lw (dN t) j = coI kk vv lw t j
  | [] => rfl
  | true :: _ => rfl
  | false :: t => co_dN t
theorem co_eq {kk vv : Nat → Int} {lw : Int} {j : Nat} {s t : List Bool} (h : dN s = dN t) : coI kk vv lw t j = coI kk vv lw s j := by rw [← co_dN t, ← h, co_dN s]
/-- and, or -/
theorem co_ao {kk vv : Nat → Int} {lw : Int} {j : Nat} {t : List Bool} (hl : t.length ≤ 8) (hn : nh t = true) (h : kk j = 9 ∨ kk j = 8) : coI kk vv lw t j = duI kk vv lw t (j + 1) := by
  have hc : cAO kk j = true := decide_eq_true h
  cases t with
  | nil => 
    show (if cAO kk j = true then lpI (paS kk vv lw 8) (cAO kk) (j + 1) else some j) = _
    rw [if_pos hc]; exact du_0
  | cons b t =>
    cases b with
    | false => cases hn
    | true =>
      rw [List.length_cons] at hl
      show (match aoI kk vv lw (7 - t.length) j with | none => none | some m => if kk m = 41 then coI kk vv lw t (m + 1) else none) = _
      unfold aoI duI
      rw [if_pos hc, lpI_eq (paS_gp _), List.length_cons, show 8 - (t.length + 1) = 7 - t.length by omega]
      cases paS kk vv lw (7 - t.length) (j + 1) with
      | none => rfl
      | some m => rfl
theorem co_end {kk vv : Nat → Int} {lw : Int} {j : Nat} {t : List Bool} (ht : t = []) (h : kk j ≠ 9 ∧ kk j ≠ 8) : coI kk vv lw t j = some j := by
  subst ht
  have hc : cAO kk j = false := decide_eq_false (by omega)
  show (if cAO kk j = true then lpI (paS kk vv lw 8) (cAO kk) (j + 1) else some j) = _
  rw [if_neg (by rw [hc]; decide)]
theorem co_br {kk vv : Nat → Int} {lw : Int} {j : Nat} {t : List Bool} (h : kk j ≠ 9 ∧ kk j ≠ 8) : coI kk vv lw (true :: t) j = if kk j = 41 then coI kk vv lw t (j + 1) else none := by
  have hc : cAO kk j = false := decide_eq_false (by omega)
  show (match aoI kk vv lw (7 - t.length) j with | none => none | some m => if kk m = 41 then coI kk vv lw t (m + 1) else none) = _
  unfold aoI
  rw [if_neg (by rw [hc]; decide)]
theorem co_bad {kk vv : Nat → Int} {lw : Int} {j : Nat} {t : List Bool} (ht : ∃ u, t = true :: u) (h : kk j ≠ 9 ∧ kk j ≠ 8) (h41 : kk j ≠ 41) : coI kk vv lw t j = none := by
  obtain ⟨u, rfl⟩ := ht
  rw [co_br h, if_neg h41]
theorem co_close {kk vv : Nat → Int} {lw : Int} {j : Nat} {t u : List Bool} (ht : t = true :: u) (h41 : kk j = 41) : coI kk vv lw t j = coI kk vv lw u (j + 1) := by
  subst ht
  rw [co_br (by omega), if_pos h41]
/-- what waits, seen as a list; all that is open is counted -/
def PX (f : Nat → Int32) (n : Nat) (o : Int) (t : List Bool) : Prop := mkL f n = t ∧ (t.length : Int) = o
theorem PX.congr {f f1 : Nat → Int32} {n : Nat} {o : Int} {t : List Bool} (e : ∀ j, f1 j = f j) (h : PX f n o t) : PX f1 n o t := by rw [show f1 = f from funext e]; exact h
theorem PX.cast {f : Nat → Int32} {n n' : Nat} {o o' : Int} {t : List Bool} (h : PX f n o t) (hn : n' = n) (ho : o' = o) : PX f n' o' t := by rw [hn, ho]; exact h
theorem PX.nil {f : Nat → Int32} {o : Int} (h : o = 0) : PX f 0 o [] := ⟨rfl, h.symm⟩
theorem PX.push {f f1 : Nat → Int32} {n m : Nat} {o o' v : Int} {t u : List Bool} (h : PX f n o t) (hx : (f1 n).toInt = v) (ho : ∀ j, j ≠ n → f1 j = f j) (hm : m = n + 1)
    (hv : (v = 9 ∧ o' = o + 1 ∧ u = false :: t) ∨ (v = 12 ∧ o' = o + 1 ∧ u = true :: t) ∨ ((v = 10 ∨ v = 11) ∧ o' = o ∧ u = t)) : PX f1 m o' u := by
  obtain ⟨h1, h2⟩ := h
  have e := mkL_congr n (fun j hj => ho j (by omega))
  rcases hv with ⟨q, p, rfl⟩ | ⟨q, p, rfl⟩ | ⟨q, p, rfl⟩
  · exact ⟨by rw [mkL_9 hm (by omega), e, h1], by rw [List.length_cons]; omega⟩
  · exact ⟨by rw [mkL_12 hm (by omega), e, h1], by rw [List.length_cons]; omega⟩
  · exact ⟨by rw [mkL_x hm (by omega), e, h1], by omega⟩
theorem PX.settle {f : Nat → Int32} {n n' : Nat} {o o' : Int} {t : List Bool} (h : PX f n o t) (h1 : dN (mkL f n') = dN (mkL f n)) (h2 : ((cO f n' : Nat) : Int) + o = ((cO f n : Nat) : Int) + o') : PX f n' o' (mkL f n') ∧ dN (mkL f n') = dN t := by
  obtain ⟨rfl, h3⟩ := h
  rw [← mkL_len, ← mkL_len] at h2
  exact ⟨⟨rfl, by omega⟩, h1⟩
/-- of and, or: nothing open goes -/
theorem PX.settleX {f : Nat → Int32} {n n' : Nat} {o o' : Int} {t : List Bool} (h : PX f n o t) (hn : nh t = true) (h1 : dN (mkL f n') = dN (mkL f n)) (h2 : ((cO f n' : Nat) : Int) + o = ((cO f n : Nat) : Int) + o') (ho : o' = o) : PX f n' o' t := by
  obtain ⟨rfl, h3⟩ := h
  rw [← mkL_len, ← mkL_len] at h2
  rw [dN_nh hn] at h1
  have := dN_len h1 (by omega)
  exact ⟨this, by omega⟩
theorem PX.pop {f : Nat → Int32} {n m : Nat} {o o' : Int} {t : List Bool} (h : PX f n o t) (ht : (f m).toInt = 12) (hm : n = m + 1) (ho : o' = o - 1) : t = true :: mkL f m ∧ PX f m o' (mkL f m) := by
  obtain ⟨rfl, h3⟩ := h
  have e := mkL_12 hm ht
  rw [e, List.length_cons] at h3
  exact ⟨e, rfl, by omega⟩
