theorem HD.get {P : Prop} (h : HD P) : P := h
/-! ===== blanks for notes: two searches, one answer ===== -/
/-- may blank b take the next note behind g -/
def okB (nl bl br : Nat → Int) (sp : Int) (g : List Nat) (b : Nat) : Bool := decide (b ∉ g) && decide (nl g.length ≤ bl b) && g.all (fun x => decide (br x - br b ≤ sp ∧ br b - br x ≤ sp))
/-- what is wasted -/
def wsB (nl bl : Nat → Int) : List Nat → Int
  | [] => 0
  | b :: t => wsB nl bl t + bl b - nl t.length
/-- g is held the latest first -/
def upB (nl bl : Nat → Int) (g : List Nat) (a : Int × List Nat) : Int × List Nat := if a.1 = -1 ∨ wsB nl bl g < a.1 then (wsB nl bl g, g) else a
/-- from b on -/
def frB (F : Nat → Int × List Nat → Int × List Nat) : Nat → Nat → Int × List Nat → Int × List Nat
  | 0, _, a => a
  | k + 1, b, a => frB F k (b + 1) (F b a)
def goB (nl bl br : Nat → Int) (sp : Int) (m : Nat) : Nat → List Nat → Int × List Nat → Int × List Nat
  | 0, g, a => upB nl bl g a
  | f + 1, g, a => frB (fun b a => if okB nl bl br sp g b = true then goB nl bl br sp m f (b :: g) a else a) m 0 a
/-- with what was met -/
def upM (M : Nat → Int) (k : Nat) : Nat → Int := fun j => if j = k then 1 else M j
def ky : List Nat → Nat
  | [] => 0
  | b :: t => ky t ||| 2 ^ b
def frM (F : Nat → (Nat → Int) × Int × List Nat → (Nat → Int) × Int × List Nat) : Nat → Nat → (Nat → Int) × Int × List Nat → (Nat → Int) × Int × List Nat
  | 0, _, a => a
  | k + 1, b, a => frM F k (b + 1) (F b a)
def goM (nl bl br : Nat → Int) (sp : Int) (m : Nat) : Nat → List Nat → (Nat → Int) × Int × List Nat → (Nat → Int) × Int × List Nat
  | 0, g, a => (a.1, upB nl bl g a.2)
  | f + 1, g, a => frM (fun b a => if okB nl bl br sp g b = true ∧ a.1 (ky (b :: g)) = 0 then goM nl bl br sp m f (b :: g) (upM a.1 (ky (b :: g)), a.2) else a) m 0 a
/-- every way on from g wastes t or more -/
def alB (nl bl br : Nat → Int) (sp : Int) (m : Nat) : Nat → List Nat → Int → Prop
  | 0, g, t => t ≠ -1 ∧ t ≤ wsB nl bl g
  | f + 1, g, t => ∀ b : Nat, b < m → okB nl bl br sp g b = true → alB nl bl br sp m f (b :: g) t
def leB (s t : Int) : Prop := t ≠ -1 → s ≠ -1 ∧ s ≤ t
theorem leB.refl {t : Int} : leB t t := fun h => ⟨h, Int.le_refl _⟩
theorem leB.tr {r s t : Int} (h : leB r s) (g : leB s t) : leB r t := fun e => by
  obtain ⟨a, b⟩ := g e
  obtain ⟨c, d⟩ := h a
  exact ⟨c, Int.le_trans d b⟩
theorem al_mono {nl bl br : Nat → Int} {sp : Int} {m : Nat} : ∀ (f : Nat) (g : List Nat) {s t : Int}, leB s t → alB nl bl br sp m f g t → alB nl bl br sp m f g s
  | 0, _, _, _, h, ⟨a, b⟩ => ⟨(h a).1, Int.le_trans (h a).2 b⟩
  | f + 1, g, _, _, h, k => fun b hb ho => al_mono f (b :: g) h (k b hb ho)
theorem up_le {nl bl : Nat → Int} {g : List Nat} {a : Int × List Nat} (hw : 0 ≤ wsB nl bl g) : leB (upB nl bl g a).1 a.1 ∧ ((upB nl bl g a).1 ≠ -1 ∧ (upB nl bl g a).1 ≤ wsB nl bl g) := by
  unfold upB
  by_cases h : a.1 = -1 ∨ wsB nl bl g < a.1
  · rw [if_pos h]
    exact ⟨fun e => ⟨by show wsB nl bl g ≠ -1; omega, by show wsB nl bl g ≤ a.1; omega⟩, by show wsB nl bl g ≠ -1; omega, Int.le_refl _⟩
  · rw [if_neg h]
    exact ⟨leB.refl, by omega, by omega⟩
theorem ok_nl {nl bl br : Nat → Int} {sp : Int} {g : List Nat} {b : Nat} (h : okB nl bl br sp g b = true) : nl g.length ≤ bl b ∧ b ∉ g := by
  unfold okB at h
  rw [Bool.and_eq_true, Bool.and_eq_true] at h
  exact ⟨of_decide_eq_true h.1.2, of_decide_eq_true h.1.1⟩
theorem fr_le {F : Nat → Int × List Nat → Int × List Nat} (hF : ∀ b a, leB (F b a).1 a.1) : ∀ (k b : Nat) (a : Int × List Nat), leB (frB F k b a).1 a.1
  | 0, _, _ => leB.refl
  | k + 1, b, a => leB.tr (fr_le hF k (b + 1) (F b a)) (hF b a)
theorem go_le {nl bl br : Nat → Int} {sp : Int} {m : Nat} : ∀ (f : Nat) (g : List Nat) (a : Int × List Nat), 0 ≤ wsB nl bl g → leB (goB nl bl br sp m f g a).1 a.1
  | 0, g, a, hw => (up_le hw).1
  | f + 1, g, a, hw => fr_le (fun b a => by
      by_cases h : okB nl bl br sp g b = true
      · rw [if_pos h]
        have := (ok_nl h).1
        exact go_le f (b :: g) a (by show 0 ≤ wsB nl bl g + bl b - nl g.length; omega)
      · rw [if_neg h]; exact leB.refl) m 0 a
/-- behind the search every way wastes no less -/
theorem fr_al {F : Nat → Int × List Nat → Int × List Nat} {Q : Nat → Int → Prop} (hF : ∀ b a, leB (F b a).1 a.1) (hQ : ∀ b s t, leB s t → Q b t → Q b s) (h : ∀ b a, Q b (F b a).1) : ∀ (k b : Nat) (a : Int × List Nat) (c : Nat), b ≤ c → c < b + k → Q c (frB F k b a).1
  | 0, b, a, c, h1, h2 => by omega
  | k + 1, b, a, c, h1, h2 => by
    show Q c (frB F k (b + 1) (F b a)).1
    by_cases e : c = b
    · subst e
      exact hQ c _ _ (fr_le hF k (c + 1) (F c a)) (h c a)
    · exact fr_al hF hQ h k (b + 1) (F b a) c (by omega) (by omega)
theorem go_al {nl bl br : Nat → Int} {sp : Int} {m : Nat} : ∀ (f : Nat) (g : List Nat) (a : Int × List Nat), 0 ≤ wsB nl bl g → alB nl bl br sp m f g (goB nl bl br sp m f g a).1
  | 0, g, a, hw => (up_le hw).2
  | f + 1, g, a, hw => fun b hb ho => by
    have hw2 : ∀ b, okB nl bl br sp g b = true → 0 ≤ wsB nl bl (b :: g) := fun b h => by
      have := (ok_nl h).1
      show 0 ≤ wsB nl bl g + bl b - nl g.length
      omega
    refine fr_al (Q := fun b t => okB nl bl br sp g b = true → alB nl bl br sp m f (b :: g) t) (fun b a => ?_) (fun b s t hst h ho => al_mono f (b :: g) hst (h ho)) (fun b a ho => ?_) m 0 a b (Nat.zero_le _) (by omega) ho
    · by_cases h : okB nl bl br sp g b = true
      · rw [if_pos h]; exact go_le f (b :: g) a (hw2 b h)
      · rw [if_neg h]; exact leB.refl
    · rw [if_pos ho]; exact go_al f (b :: g) a (hw2 b ho)
/-- where every way wastes no less, nothing changes -/
theorem fr_id {F : Nat → Int × List Nat → Int × List Nat} {a : Int × List Nat} : ∀ (k b : Nat), (∀ c, b ≤ c → c < b + k → F c a = a) → frB F k b a = a
  | 0, _, _ => rfl
  | k + 1, b, h => by
    show frB F k (b + 1) (F b a) = a
    rw [h b (Nat.le_refl _) (by omega)]
    exact fr_id k (b + 1) (fun c h1 h2 => h c (by omega) (by omega))
theorem go_id {nl bl br : Nat → Int} {sp : Int} {m : Nat} : ∀ (f : Nat) (g : List Nat) (a : Int × List Nat), alB nl bl br sp m f g a.1 → goB nl bl br sp m f g a = a
  | 0, g, a, h => by
    show upB nl bl g a = a
    unfold upB
    rw [if_neg (by have := h.1; have := h.2; omega)]
  | f + 1, g, a, h => fr_id m 0 (fun c _ hc => by
      show (if okB nl bl br sp g c = true then goB nl bl br sp m f (c :: g) a else a) = a
      by_cases ho : okB nl bl br sp g c = true
      · rw [if_pos ho]; exact go_id f (c :: g) a (h c (by omega) ho)
      · rw [if_neg ho])
/-- the order of what stands does not count -/
theorem ws_perm {nl bl : Nat → Int} : ∀ {g h : List Nat}, g.Perm h → wsB nl bl g = wsB nl bl h := by
  intro g h p
  induction p with
  | nil => rfl
  | cons x q ih => show wsB nl bl _ + bl x - nl _ = wsB nl bl _ + bl x - nl _; rw [ih, q.length_eq]
  | swap x y l => show wsB nl bl l + bl x - nl l.length + bl y - nl (x :: l).length = wsB nl bl l + bl y - nl l.length + bl x - nl (y :: l).length; rw [List.length_cons, List.length_cons]; omega
  | trans _ _ a b => exact a.trans b
theorem ok_perm {nl bl br : Nat → Int} {sp : Int} {g h : List Nat} {b : Nat} (p : g.Perm h) : okB nl bl br sp g b = okB nl bl br sp h b := by
  unfold okB
  rw [p.length_eq]
  have e1 : decide (b ∉ g) = decide (b ∉ h) := by
    have : (b ∉ g) ↔ (b ∉ h) := not_congr p.mem_iff
    simp [this]
  rw [e1]
  congr 1
  rw [Bool.eq_iff_iff, List.all_eq_true, List.all_eq_true]
  exact ⟨fun z x hx => z x (p.mem_iff.mpr hx), fun z x hx => z x (p.mem_iff.mp hx)⟩
theorem al_perm {nl bl br : Nat → Int} {sp : Int} {m : Nat} : ∀ (f : Nat) {g h : List Nat} {t : Int}, g.Perm h → alB nl bl br sp m f g t → alB nl bl br sp m f h t
  | 0, _, _, _, p, ⟨a, b⟩ => ⟨a, by rw [← ws_perm p]; exact b⟩
  | f + 1, _, _, _, p, k => fun b hb ho => al_perm f (p.cons b) (k b hb (by rw [ok_perm p]; exact ho))
theorem ky_mem : ∀ (g : List Nat) (x : Nat), (ky g).testBit x = decide (x ∈ g)
  | [], x => by rw [ky, Nat.zero_testBit]; simp
  | b :: t, x => by
    rw [ky, Nat.testBit_or, ky_mem t x, Nat.testBit_two_pow]
    by_cases e : b = x
    · subst e; simp
    · have e2 : ¬ x = b := fun z => e z.symm
      simp [e, e2]
theorem ky_perm {g h : List Nat} (ng : g.Nodup) (nh : h.Nodup) (e : ky g = ky h) : g.Perm h := (List.perm_ext_iff_of_nodup ng nh).mpr fun x => by
  have a := ky_mem g x
  rw [e, ky_mem h x] at a
  by_cases p : x ∈ g
  · rw [decide_eq_true p] at a; exact ⟨fun _ => of_decide_eq_true a, fun _ => p⟩
  · rw [decide_eq_false p] at a; exact ⟨fun z => absurd z p, fun z => absurd z (of_decide_eq_false a)⟩
/-- what was met is done with (rows longer than g) -/
def dnM (nl bl br : Nat → Int) (sp : Int) (m n l : Nat) (M : Nat → Int) (t : Int) : Prop := ∀ h : List Nat, h.Nodup → l < h.length → h.length ≤ n → M (ky h) ≠ 0 → alB nl bl br sp m (n - h.length) h t
theorem dn_mono {nl bl br : Nat → Int} {sp : Int} {m n l : Nat} {M : Nat → Int} {s t : Int} (h : dnM nl bl br sp m n l M t) (e : leB s t) : dnM nl bl br sp m n l M s := fun g a b c d => al_mono _ g e (h g a b c d)
theorem goM_eq {nl bl br : Nat → Int} {sp : Int} {m n : Nat} : ∀ (f : Nat) (g : List Nat) (M : Nat → Int) (a : Int × List Nat), g.Nodup → g.length + f = n → 0 ≤ wsB nl bl g → dnM nl bl br sp m n g.length M a.1 → ∃ M1 : Nat → Int, goM nl bl br sp m f g (M, a) = (M1, goB nl bl br sp m f g a) ∧ dnM nl bl br sp m n g.length M1 (goB nl bl br sp m f g a).1 ∧ ∀ h : List Nat, h.Nodup → h.length ≤ g.length → M1 (ky h) = M (ky h)
  | 0, g, M, a, ng, hf, hw, hd => ⟨M, rfl, dn_mono hd (up_le hw).1, fun _ _ _ => rfl⟩
  | f + 1, g, M, a, ng, hf, hw, hd => by
    have H : ∀ (k b : Nat) (M : Nat → Int) (a : Int × List Nat), dnM nl bl br sp m n g.length M a.1 → ∃ M1 : Nat → Int, frM (fun b a => if okB nl bl br sp g b = true ∧ a.1 (ky (b :: g)) = 0 then goM nl bl br sp m f (b :: g) (upM a.1 (ky (b :: g)), a.2) else a) k b (M, a) = (M1, frB (fun b a => if okB nl bl br sp g b = true then goB nl bl br sp m f (b :: g) a else a) k b a) ∧ dnM nl bl br sp m n g.length M1 (frB (fun b a => if okB nl bl br sp g b = true then goB nl bl br sp m f (b :: g) a else a) k b a).1 ∧ ∀ h : List Nat, h.Nodup → h.length ≤ g.length → M1 (ky h) = M (ky h) := by
      intro k
      induction k with
      | zero => intro b M a hd; exact ⟨M, rfl, hd, fun _ _ _ => rfl⟩
      | succ k ih =>
        intro b M a hd
        have one : ∃ M1 : Nat → Int, (if okB nl bl br sp g b = true ∧ M (ky (b :: g)) = 0 then goM nl bl br sp m f (b :: g) (upM M (ky (b :: g)), a) else (M, a)) = (M1, if okB nl bl br sp g b = true then goB nl bl br sp m f (b :: g) a else a) ∧ dnM nl bl br sp m n g.length M1 (if okB nl bl br sp g b = true then goB nl bl br sp m f (b :: g) a else a).1 ∧ ∀ h : List Nat, h.Nodup → h.length ≤ g.length → M1 (ky h) = M (ky h) := by
          by_cases ho : okB nl bl br sp g b = true
          · have hn := ok_nl ho
            have ng2 : (b :: g).Nodup := List.nodup_cons.mpr ⟨hn.2, ng⟩
            have hw2 : 0 ≤ wsB nl bl (b :: g) := by show 0 ≤ wsB nl bl g + bl b - nl g.length; omega
            have hl : (b :: g).length = g.length + 1 := List.length_cons
            rw [if_pos ho]
            by_cases hM : M (ky (b :: g)) = 0
            · rw [if_pos ⟨ho, hM⟩]
              have hd2 : dnM nl bl br sp m n (b :: g).length (upM M (ky (b :: g))) a.1 := by
                intro h nh h1 h2 h3
                by_cases e : ky h = ky (b :: g)
                · have := (ky_perm nh ng2 e).length_eq
                  omega
                · exact hd h nh (by omega) h2 (by unfold upM at h3; rw [if_neg e] at h3; exact h3)
              obtain ⟨M1, e1, d1, k1⟩ := goM_eq f (b :: g) (upM M (ky (b :: g))) a ng2 (by omega) hw2 hd2
              refine ⟨M1, e1, ?_, fun h nh h1 => ?_⟩
              · intro h nh h1 h2 h3
                by_cases c : (b :: g).length < h.length
                · exact d1 h nh c h2 h3
                · have hk := k1 h nh (by omega)
                  rw [hk] at h3
                  by_cases e : ky h = ky (b :: g)
                  · have p := ky_perm nh ng2 e
                    refine al_perm _ p.symm ?_
                    rw [show n - h.length = f by have := p.length_eq; omega]
                    exact go_al f (b :: g) a hw2
                  · unfold upM at h3
                    rw [if_neg e] at h3
                    exact al_mono _ h (go_le f (b :: g) a hw2) (hd h nh h1 h2 h3)
              · rw [k1 h nh (by omega)]
                unfold upM
                rw [if_neg (fun e => by have := (ky_perm nh ng2 e).length_eq; omega)]
            · rw [if_neg (fun z => hM z.2)]
              have hal : alB nl bl br sp m f (b :: g) a.1 := by
                have := hd (b :: g) ng2 (by omega) (by omega) hM
                rw [show n - (b :: g).length = f by omega] at this
                exact this
              rw [go_id f (b :: g) a hal]
              exact ⟨M, rfl, hd, fun _ _ _ => rfl⟩
          · rw [if_neg ho, if_neg (fun z => ho z.1)]
            exact ⟨M, rfl, hd, fun _ _ _ => rfl⟩
        obtain ⟨M1, e1, d1, k1⟩ := one
        obtain ⟨M2, e2, d2, k2⟩ := ih (b + 1) M1 _ d1
        refine ⟨M2, ?_, d2, fun h nh hl => (k2 h nh hl).trans (k1 h nh hl)⟩
        exact (congrArg (frM _ k (b + 1)) e1).trans e2
    exact H m 0 M a hd
/-- from nothing: the search that skips what was met finds what the plain one finds -/
theorem goM_0 {nl bl br : Nat → Int} {sp : Int} {m n : Nat} {a : Int × List Nat} : (goM nl bl br sp m n [] (fun _ => 0, a)).2 = goB nl bl br sp m n [] a := by
  obtain ⟨M1, e, _, _⟩ := goM_eq (nl := nl) (bl := bl) (br := br) (sp := sp) (m := m) (n := n) n [] (fun _ => 0) a List.nodup_nil (by show 0 + n = n; omega) (Int.le_refl _) (fun h _ _ _ z => absurd rfl z)
  rw [e]
/-! ===== rows of an array, the latest first ===== -/
def pr (f : Nat → Int) : Nat → List Nat
  | 0 => []
  | p + 1 => (f p).toNat :: pr f p
theorem pr_c {f h : Nat → Int} : ∀ p : Nat, (∀ j : Nat, j < p → f j = h j) → pr f p = pr h p
  | 0, _ => rfl
  | p + 1, e => by rw [pr, pr, e p (by omega), pr_c p (fun j hj => e j (by omega))]
theorem pr_len {f : Nat → Int} : ∀ p : Nat, (pr f p).length = p
  | 0 => rfl
  | p + 1 => by rw [pr, List.length_cons, pr_len p]
theorem pr_mem {f : Nat → Int} {x : Nat} : ∀ {p : Nat}, x ∈ pr f p → ∃ j : Nat, j < p ∧ (f j).toNat = x
  | p + 1, h => by
    rw [pr] at h
    rcases List.mem_cons.mp h with e | e
    · exact ⟨p, by omega, e.symm⟩
    · obtain ⟨j, a, b⟩ := pr_mem e
      exact ⟨j, by omega, b⟩
theorem mem_pr {f : Nat → Int} {j : Nat} : ∀ {p : Nat}, j < p → (f j).toNat ∈ pr f p
  | p + 1, h => by
    rw [pr]
    by_cases c : j = p
    · rw [c]; exact List.mem_cons_self
    · exact List.mem_cons_of_mem _ (mem_pr (by omega))
/-! the plain search as a counter -/
def stB (nl bl br : Nat → Int) (sp : Int) (m n : Nat) (gv : Nat → Int) (p : Nat) (a : Int × List Nat) : Int × List Nat := frB (fun b a => if okB nl bl br sp (pr gv p) b = true then goB nl bl br sp m (n - 1 - p) (b :: pr gv p) a else a) (m - (gv p + 1).toNat) (gv p + 1).toNat a
def kB (nl bl br : Nat → Int) (sp : Int) (m n : Nat) (gv : Nat → Int) : Nat → Int × List Nat → Int × List Nat
  | 0, a => stB nl bl br sp m n gv 0 a
  | p + 1, a => kB nl bl br sp m n gv p (stB nl bl br sp m n gv (p + 1) a)
theorem st_c {nl bl br : Nat → Int} {sp : Int} {m n p : Nat} {gv hv : Nat → Int} {a : Int × List Nat} (e : ∀ j : Nat, j ≤ p → gv j = hv j) : stB nl bl br sp m n gv p a = stB nl bl br sp m n hv p a := by
  unfold stB
  rw [pr_c p (fun j hj => e j (by omega)), e p (Nat.le_refl _)]
theorem kB_c {nl bl br : Nat → Int} {sp : Int} {m n : Nat} {gv hv : Nat → Int} : ∀ (p : Nat) (a : Int × List Nat), (∀ j : Nat, j ≤ p → gv j = hv j) → kB nl bl br sp m n gv p a = kB nl bl br sp m n hv p a
  | 0, a, e => st_c e
  | p + 1, a, e => by
    show kB nl bl br sp m n gv p (stB nl bl br sp m n gv (p + 1) a) = kB nl bl br sp m n hv p (stB nl bl br sp m n hv (p + 1) a)
    rw [st_c e, kB_c p _ (fun j hj => e j (by omega))]
/-- the whole -/
theorem kB_0 {nl bl br : Nat → Int} {sp : Int} {m n : Nat} {gv : Nat → Int} {a : Int × List Nat} (h : gv 0 = -1) (hn : 0 < n) : goB nl bl br sp m n [] a = kB nl bl br sp m n gv 0 a := by
  obtain ⟨f, rfl⟩ : ∃ f, n = f + 1 := ⟨n - 1, by omega⟩
  show _ = stB nl bl br sp m (f + 1) gv 0 a
  unfold stB
  rw [h]
  rfl
/-- no blank is left at p -/
theorem kB_end {nl bl br : Nat → Int} {sp : Int} {m n p : Nat} {gv : Nat → Int} {a : Int × List Nat} (h : (m : Int) ≤ gv p + 1) : stB nl bl br sp m n gv p a = a := by
  unfold stB
  rw [show m - (gv p + 1).toNat = 0 by omega]
  rfl
theorem kB_pop {nl bl br : Nat → Int} {sp : Int} {m n p q : Nat} {gv hv : Nat → Int} {a : Int × List Nat} (h : (m : Int) ≤ gv p + 1) (hp : p = q + 1) (e : ∀ j : Nat, j ≤ q → gv j = hv j) : kB nl bl br sp m n gv p a = kB nl bl br sp m n hv q a := by
  subst hp
  show kB nl bl br sp m n gv q (stB nl bl br sp m n gv (q + 1) a) = _
  rw [kB_end h]
  exact kB_c q a e
theorem kB_done {nl bl br : Nat → Int} {sp : Int} {m n : Nat} {gv : Nat → Int} {a : Int × List Nat} (h : (m : Int) ≤ gv 0 + 1) : kB nl bl br sp m n gv 0 a = a := kB_end h
/-- one blank at p -/
theorem st_one {nl bl br : Nat → Int} {sp : Int} {m n p : Nat} {gv hv : Nat → Int} {a : Int × List Nat} (h0 : 0 ≤ gv p + 1) (h : gv p + 1 < (m : Int)) (hp : hv p = gv p + 1) (e : ∀ j : Nat, j < p → gv j = hv j) : stB nl bl br sp m n gv p a = stB nl bl br sp m n hv p (if okB nl bl br sp (pr hv p) (hv p).toNat = true then goB nl bl br sp m (n - 1 - p) (pr hv (p + 1)) a else a) := by
  unfold stB
  rw [pr_c p e]
  rw [show m - (gv p + 1).toNat = (m - (hv p + 1).toNat) + 1 by omega]
  show frB _ (m - (hv p + 1).toNat) ((gv p + 1).toNat + 1) _ = _
  rw [show (gv p + 1).toNat + 1 = (hv p + 1).toNat by omega, show (gv p + 1).toNat = (hv p).toNat by omega]
  rfl
theorem kB_st {nl bl br : Nat → Int} {sp : Int} {m n p : Nat} {gv hv : Nat → Int} {a b : Int × List Nat} (e : ∀ j : Nat, j < p → gv j = hv j) (h : stB nl bl br sp m n gv p a = stB nl bl br sp m n hv p b) : kB nl bl br sp m n gv p a = kB nl bl br sp m n hv p b := by
  cases p with
  | zero => exact h
  | succ p =>
    show kB nl bl br sp m n gv p (stB nl bl br sp m n gv (p + 1) a) = kB nl bl br sp m n hv p (stB nl bl br sp m n hv (p + 1) b)
    rw [h]
    exact kB_c p _ (fun j hj => e j (by omega))
theorem kB_no {nl bl br : Nat → Int} {sp : Int} {m n p : Nat} {gv hv : Nat → Int} {a : Int × List Nat} (h0 : 0 ≤ gv p + 1) (h : gv p + 1 < (m : Int)) (hp : hv p = gv p + 1) (e : ∀ j : Nat, j < p → gv j = hv j) (ho : okB nl bl br sp (pr hv p) (hv p).toNat = false) : kB nl bl br sp m n gv p a = kB nl bl br sp m n hv p a := kB_st e ((st_one h0 h hp e).trans (by rw [if_neg (by rw [ho]; decide)]))
theorem kB_up {nl bl br : Nat → Int} {sp : Int} {m n p : Nat} {gv hv : Nat → Int} {a : Int × List Nat} (h0 : 0 ≤ gv p + 1) (h : gv p + 1 < (m : Int)) (hp : hv p = gv p + 1) (e : ∀ j : Nat, j < p → gv j = hv j) (ho : okB nl bl br sp (pr hv p) (hv p).toNat = true) (hn : n = p + 1) : kB nl bl br sp m n gv p a = kB nl bl br sp m n hv p (upB nl bl (pr hv n) a) := by
  subst hn
  refine kB_st e ((st_one h0 h hp e).trans ?_)
  rw [if_pos ho, show p + 1 - 1 - p = 0 by omega]
  rfl
theorem kB_down {nl bl br : Nat → Int} {sp : Int} {m n p q : Nat} {gv hv : Nat → Int} {a : Int × List Nat} (h0 : 0 ≤ gv p + 1) (h : gv p + 1 < (m : Int)) (hp : hv p = gv p + 1) (e : ∀ j : Nat, j < p → gv j = hv j) (ho : okB nl bl br sp (pr hv p) (hv p).toNat = true) (hn : p + 1 < n) (hq : q = p + 1) (h1 : hv q = -1) : kB nl bl br sp m n gv p a = kB nl bl br sp m n hv q a := by
  subst hq
  refine (kB_st e ((st_one h0 h hp e).trans (by rw [if_pos ho]))).trans ?_
  show _ = kB nl bl br sp m n hv p (stB nl bl br sp m n hv (p + 1) a)
  congr 1
  obtain ⟨f, hf⟩ : ∃ f, n - 1 - p = f + 1 := ⟨n - 2 - p, by omega⟩
  unfold stB
  rw [hf, h1, show n - 1 - (p + 1) = f by omega]
  rfl
/-! ===== what is found depends on the rows alone ===== -/
theorem ok_c {nl bl br nl' bl' br' : Nat → Int} {sp : Int} {m n : Nat} {g : List Nat} {b : Nat} (h1 : ∀ j : Nat, j < n → nl j = nl' j) (h2 : ∀ j : Nat, j < m → bl j = bl' j ∧ br j = br' j) (hg : ∀ x ∈ g, x < m) (hb : b < m) (hl : g.length < n) : okB nl bl br sp g b = okB nl' bl' br' sp g b := by
  unfold okB
  rw [h1 _ hl, (h2 b hb).1]
  congr 1
  rw [Bool.eq_iff_iff, List.all_eq_true, List.all_eq_true]
  constructor
  · intro z x hx
    have := z x hx
    rw [(h2 x (hg x hx)).2, (h2 b hb).2] at this
    exact this
  · intro z x hx
    have := z x hx
    rw [← (h2 x (hg x hx)).2, ← (h2 b hb).2] at this
    exact this
theorem ws_c {nl bl nl' bl' : Nat → Int} {m n : Nat} (h1 : ∀ j : Nat, j < n → nl j = nl' j) (h2 : ∀ j : Nat, j < m → bl j = bl' j) : ∀ (g : List Nat), (∀ x ∈ g, x < m) → g.length ≤ n → wsB nl bl g = wsB nl' bl' g
  | [], _, _ => rfl
  | b :: t, hg, hl => by
    rw [List.length_cons] at hl
    show wsB nl bl t + bl b - nl t.length = wsB nl' bl' t + bl' b - nl' t.length
    rw [ws_c h1 h2 t (fun x hx => hg x (List.mem_cons_of_mem _ hx)) (by omega), h2 b (hg b List.mem_cons_self), h1 _ (by omega)]
theorem fr_c {F F' : Nat → Int × List Nat → Int × List Nat} {m : Nat} (h : ∀ b : Nat, b < m → ∀ a, F b a = F' b a) : ∀ (k b : Nat) (a : Int × List Nat), b + k ≤ m → frB F k b a = frB F' k b a
  | 0, _, _, _ => rfl
  | k + 1, b, a, hk => by
    show frB F k (b + 1) (F b a) = frB F' k (b + 1) (F' b a)
    rw [h b (by omega), fr_c h k (b + 1) _ (by omega)]
theorem go_c {nl bl br nl' bl' br' : Nat → Int} {sp : Int} {m n : Nat} (h1 : ∀ j : Nat, j < n → nl j = nl' j) (h2 : ∀ j : Nat, j < m → bl j = bl' j ∧ br j = br' j) : ∀ (f : Nat) (g : List Nat) (a : Int × List Nat), (∀ x ∈ g, x < m) → g.length + f = n → goB nl bl br sp m f g a = goB nl' bl' br' sp m f g a
  | 0, g, a, hg, hl => by
    show upB nl bl g a = upB nl' bl' g a
    unfold upB
    rw [ws_c h1 (fun j hj => (h2 j hj).1) g hg (by omega)]
  | f + 1, g, a, hg, hl => fr_c (m := m) (fun b hb a => by
      show (if okB nl bl br sp g b = true then _ else _) = (if okB nl' bl' br' sp g b = true then _ else _)
      rw [ok_c h1 h2 hg hb (by omega), go_c h1 h2 f (b :: g) a (fun x hx => by
        rcases List.mem_cons.mp hx with e | e
        · rw [e]; exact hb
        · exact hg x e) (by rw [List.length_cons]; omega)]) m 0 a (by omega)
/-- what set answers -/
def saB (nl bl br : Nat → Int) (sp : Int) (m n : Nat) (wt : Int) : Int := if wt = 0 ∨ (goB nl bl br sp m n [] (-1, [])).1 = -1 then (goB nl bl br sp m n [] (-1, [])).1 else (((goB nl bl br sp m n [] (-1, [])).2.getD (n - wt.toNat) 0 : Nat) : Int)
theorem pr_getD {f : Nat → Int} {j : Nat} : ∀ {p : Nat}, j < p → (pr f p).getD (p - 1 - j) 0 = (f j).toNat
  | p + 1, h => by
    rw [pr]
    by_cases c : j = p
    · subst c
      rw [show j + 1 - 1 - j = 0 by omega]; rfl
    · rw [show p + 1 - 1 - j = (p - 1 - j) + 1 by omega]
      exact pr_getD (by omega)
theorem sa_c {nl bl br nl' bl' br' : Nat → Int} {sp wt : Int} {m n : Nat} (h1 : ∀ j : Nat, j < n → nl j = nl' j) (h2 : ∀ j : Nat, j < m → bl j = bl' j ∧ br j = br' j) : saB nl bl br sp m n wt = saB nl' bl' br' sp m n wt := by
  unfold saB
  rw [go_c h1 h2 n [] (-1, []) (fun x hx => by cases hx) (by show 0 + n = n; omega)]
/-! ===== sets as bits ===== -/
theorem sb_or : ∀ (u : Fin 256) (b : Fin 8), (Int32.ofNat u.val ||| ((1 : Int32) <<< (Int32.ofNat b.val &&& 31))).toInt = ((u.val ||| 2 ^ b.val : Nat) : Int) ∧ (u.val ||| 2 ^ b.val) < 256 := by decide +kernel
theorem sbq_at : ∀ (u : Fin 256) (b : Fin 8), decide ((Int32.ofNat u.val >>> (Int32.ofNat b.val &&& 31)) &&& 1 = 1) = Nat.testBit u.val b.val := by decide +kernel
/-! ===== the class's search for blanks ===== -/
def acL (l : Int) (f : Nat → Int) (n : Nat) : List Nat := if l = -1 then [] else pr f n
def gF (nl bl br : Nat → Int) (sp : Int) (m f : Nat) (g : List Nat) (b : Nat) (a : (Nat → Int) × Int × List Nat) : (Nat → Int) × Int × List Nat := if okB nl bl br sp g b = true ∧ a.1 (ky (b :: g)) = 0 then goM nl bl br sp m f (b :: g) (upM a.1 (ky (b :: g)), a.2) else a
theorem gm_start {nl bl br : Nat → Int} {sp : Int} {m f q : Nat} {g : List Nat} {a : (Nat → Int) × Int × List Nat} (hq : q = f + 1) : goM nl bl br sp m q g a = frM (gF nl bl br sp m f g) m 0 a := by subst hq; rfl
theorem gm_skip {nl bl br : Nat → Int} {sp : Int} {m f b c : Nat} {g : List Nat} {M : Nat → Int} {a : Int × List Nat} (hb : b < m) (hc : c = b + 1) (h : okB nl bl br sp g b = false ∨ M (ky (b :: g)) ≠ 0) : frM (gF nl bl br sp m f g) (m - b) b (M, a) = frM (gF nl bl br sp m f g) (m - c) c (M, a) := by
  subst hc
  rw [show m - b = (m - (b + 1)) + 1 by omega]
  show frM _ (m - (b + 1)) (b + 1) (gF nl bl br sp m f g b (M, a)) = _
  have e : gF nl bl br sp m f g b (M, a) = (M, a) := if_neg (fun z => h.elim (fun q => by rw [z.1] at q; cases q) (fun q => q z.2))
  rw [e]
theorem gm_take {nl bl br : Nat → Int} {sp : Int} {m f b c : Nat} {g : List Nat} {M : Nat → Int} {a : Int × List Nat} {X : (Nat → Int) × Int × List Nat} (hb : b < m) (hc : c = b + 1) (ho : okB nl bl br sp g b = true) (hM : M (ky (b :: g)) = 0) (h : goM nl bl br sp m f (b :: g) (upM M (ky (b :: g)), a) = X) : frM (gF nl bl br sp m f g) (m - b) b (M, a) = frM (gF nl bl br sp m f g) (m - c) c X := by
  subst hc
  rw [show m - b = (m - (b + 1)) + 1 by omega]
  show frM _ (m - (b + 1)) (b + 1) (gF nl bl br sp m f g b (M, a)) = _
  have e : gF nl bl br sp m f g b (M, a) = X := (if_pos ⟨ho, hM⟩).trans h
  rw [e]
theorem gm_end {nl bl br : Nat → Int} {sp : Int} {m f b : Nat} {g : List Nat} {a : (Nat → Int) × Int × List Nat} (hb : m ≤ b) : frM (gF nl bl br sp m f g) (m - b) b a = a := by
  rw [show m - b = 0 by omega]; rfl
theorem gm_yes {nl bl br : Nat → Int} {sp l w : Int} {m q n : Nat} {g : List Nat} {M M1 f f1 : Nat → Int} (hq : q = 0) (hc : l = -1 ∨ w < l) (hw : w = wsB nl bl g) (h0 : 0 ≤ w) (hM : ∀ j : Nat, M1 j = M j) (hp : pr f1 n = g) : goM nl bl br sp m q g (M, l, acL l f n) = (M1, w, acL w f1 n) := by
  subst hq
  show (M, upB nl bl g (l, acL l f n)) = _
  unfold upB
  rw [if_pos (by rw [← hw]; exact hc), show M1 = M from funext hM, ← hw]
  unfold acL
  rw [if_neg (by omega), hp]
theorem gm_not {nl bl br : Nat → Int} {sp l w : Int} {m q n : Nat} {g : List Nat} {M M1 f f1 : Nat → Int} (hq : q = 0) (hc : l ≠ -1 ∧ l ≤ w) (hw : w = wsB nl bl g) (hM : ∀ j : Nat, M1 j = M j) (hp : ∀ j : Nat, f1 j = f j) : goM nl bl br sp m q g (M, l, acL l f n) = (M1, l, acL l f1 n) := by
  subst hq
  show (M, upB nl bl g (l, acL l f n)) = _
  unfold upB
  rw [if_neg (by rw [← hw]; show ¬(l = -1 ∨ w < l); omega), show M1 = M from funext hM, show f1 = f from funext hp]
/-- rings together: the class's round over all blanks -/
def rtB (br : Nat → Int) (sp : Int) (g : List Nat) (b : Nat) : Nat → Nat → Bool
  | 0, _ => true
  | k + 1, x => (!decide (x ∈ g) || decide (br x - br b ≤ sp ∧ br b - br x ≤ sp)) && rtB br sp g b k (x + 1)
theorem rt_go {br : Nat → Int} {sp : Int} {g : List Nat} {b m x y : Nat} (hx : x < m) (hy : y = x + 1) (h : x ∉ g ∨ (br x - br b ≤ sp ∧ br b - br x ≤ sp)) : rtB br sp g b (m - x) x = rtB br sp g b (m - y) y := by
  subst hy
  rw [show m - x = (m - (x + 1)) + 1 by omega]
  show ((!decide (x ∈ g) || decide (br x - br b ≤ sp ∧ br b - br x ≤ sp)) && rtB br sp g b (m - (x + 1)) (x + 1)) = _
  rcases h with h | h
  · rw [decide_eq_false h]; rfl
  · rw [decide_eq_true h, Bool.or_true]; rfl
theorem rt_no {br : Nat → Int} {sp : Int} {g : List Nat} {b m x : Nat} (hx : x < m) (hg : x ∈ g) (h : ¬ (br x - br b ≤ sp ∧ br b - br x ≤ sp)) : rtB br sp g b (m - x) x = false := by
  rw [show m - x = (m - (x + 1)) + 1 by omega]
  show ((!decide (x ∈ g) || decide (br x - br b ≤ sp ∧ br b - br x ≤ sp)) && rtB br sp g b (m - (x + 1)) (x + 1)) = false
  rw [decide_eq_true hg, decide_eq_false h]; rfl
theorem rt_end {br : Nat → Int} {sp : Int} {g : List Nat} {b m x : Nat} (hx : m ≤ x) : rtB br sp g b (m - x) x = true := by
  rw [show m - x = 0 by omega]; rfl
theorem rt_all {br : Nat → Int} {sp : Int} {g : List Nat} {b : Nat} : ∀ (k x : Nat), rtB br sp g b k x = true → ∀ y : Nat, x ≤ y → y < x + k → y ∈ g → br y - br b ≤ sp ∧ br b - br y ≤ sp
  | 0, x, _, y, h1, h2, _ => by omega
  | k + 1, x, h, y, h1, h2, hy => by
    have h : ((!decide (x ∈ g) || decide (br x - br b ≤ sp ∧ br b - br x ≤ sp)) && rtB br sp g b k (x + 1)) = true := h
    rw [Bool.and_eq_true] at h
    by_cases e : y = x
    · subst e
      have := h.1
      rw [decide_eq_true hy] at this
      exact of_decide_eq_true this
    · exact rt_all k (x + 1) h.2 y (by omega) (by omega) hy
theorem rt_ex {br : Nat → Int} {sp : Int} {g : List Nat} {b : Nat} : ∀ (k x : Nat), rtB br sp g b k x = false → ∃ y : Nat, y ∈ g ∧ ¬ (br y - br b ≤ sp ∧ br b - br y ≤ sp)
  | 0, x, h => by cases h
  | k + 1, x, h => by
    have h : ((!decide (x ∈ g) || decide (br x - br b ≤ sp ∧ br b - br x ≤ sp)) && rtB br sp g b k (x + 1)) = false := h
    by_cases hg : x ∈ g
    · by_cases hc : br x - br b ≤ sp ∧ br b - br x ≤ sp
      · rw [decide_eq_true hc, Bool.or_true, Bool.true_and] at h; exact rt_ex k (x + 1) h
      · exact ⟨x, hg, hc⟩
    · rw [decide_eq_false hg] at h
      exact rt_ex k (x + 1) h
theorem okB_y {nl bl br : Nat → Int} {sp : Int} {g : List Nat} {b m k : Nat} (hk : g.length = k) (h1 : b ∉ g) (h2 : nl k ≤ bl b) (hg : ∀ x ∈ g, x < m) (h3 : rtB br sp g b m 0 = true) : okB nl bl br sp g b = true := by
  unfold okB
  rw [hk, decide_eq_true h1, decide_eq_true h2, Bool.true_and, Bool.true_and, List.all_eq_true]
  exact fun x hx => decide_eq_true (rt_all m 0 h3 x (Nat.zero_le _) (by have := hg x hx; omega) hx)
theorem okB_n1 {nl bl br : Nat → Int} {sp : Int} {g : List Nat} {b : Nat} (h : b ∈ g) : okB nl bl br sp g b = false := by
  unfold okB
  rw [show decide (b ∉ g) = false from decide_eq_false (fun z => z h)]; rfl
theorem okB_n2 {nl bl br : Nat → Int} {sp : Int} {g : List Nat} {b k : Nat} (hk : g.length = k) (h : bl b < nl k) : okB nl bl br sp g b = false := by
  unfold okB
  rw [hk, show decide (nl k ≤ bl b) = false from decide_eq_false (by omega), Bool.and_false]; rfl
theorem okB_n3 {nl bl br : Nat → Int} {sp : Int} {g : List Nat} {b m : Nat} (h : rtB br sp g b m 0 = false) : okB nl bl br sp g b = false := by
  obtain ⟨y, hy, hc⟩ := rt_ex m 0 h
  unfold okB
  have : g.all (fun x => decide (br x - br b ≤ sp ∧ br b - br x ≤ sp)) = false := by
    rw [List.all_eq_false]
    exact ⟨y, hy, by rw [decide_eq_false hc]; decide⟩
  rw [this, Bool.and_false]
/-! bits of the class's set -/
theorem i_nat {x : Int32} {n : Nat} (h : x.toInt = (n : Int)) : x = Int32.ofNat n := by
  have hr := i_rng x
  exact Int32.toInt_inj.mp (h.trans (Int32.toInt_ofNat_of_lt (by omega)).symm)
theorem sb_ky {u b z y : Int32} {g : List Nat} (hu : u.toInt = ((ky g : Nat) : Int)) (h1 : u.toInt ≤ 255) (hb : 0 ≤ b.toInt ∧ b.toInt ≤ 7) (ez : z = (1 : Int32) <<< (b &&& 31)) (ey : y = u ||| z) : y.toInt = ((ky (b.toNatClampNeg :: g) : Nat) : Int) := by
  have hc := i_cl (x := b) (by omega)
  have e1 := i_nat hu
  have e2 : b = Int32.ofNat b.toNatClampNeg := i_nat (by omega)
  have h := (sb_or ⟨ky g, by omega⟩ ⟨b.toNatClampNeg, by omega⟩).1
  rw [ey, ez, e1]
  rw [← e2] at h
  exact h
theorem sb_mem {u b z y : Int32} {g : List Nat} (hu : u.toInt = ((ky g : Nat) : Int)) (h1 : u.toInt ≤ 255) (hb : 0 ≤ b.toInt ∧ b.toInt ≤ 7) (ez : z = u >>> (b &&& 31)) (ey : y = z &&& 1) : y.toInt = 1 ↔ b.toNatClampNeg ∈ g := by
  have hc := i_cl (x := b) (by omega)
  have e1 := i_nat hu
  have e2 : b = Int32.ofNat b.toNatClampNeg := i_nat (by omega)
  have h := sbq_at ⟨ky g, by omega⟩ ⟨b.toNatClampNeg, by omega⟩
  rw [show (⟨ky g, by omega⟩ : Fin 256).val = ky g from rfl, show (⟨b.toNatClampNeg, by omega⟩ : Fin 8).val = b.toNatClampNeg from rfl, ← e2, ← e1, ← ez, ← ey, ky_mem] at h
  constructor
  · intro q
    have : y = 1 := Int32.toInt_inj.mp q
    rw [decide_eq_true this] at h
    exact of_decide_eq_true h.symm
  · intro q
    rw [decide_eq_true q] at h
    rw [of_decide_eq_true h]; rfl
theorem ky_eq {g : List Nat} {b : Nat} : ky (b :: g) = ky g ↔ b ∈ g := by
  constructor
  · intro h
    have a := ky_mem (b :: g) b
    rw [h, ky_mem g b, decide_eq_true (show b ∈ b :: g from List.mem_cons_self)] at a
    exact of_decide_eq_true a
  · intro h
    refine Nat.eq_of_testBit_eq fun i => ?_
    rw [ky_mem, ky_mem]
    by_cases e : i = b
    · rw [e, decide_eq_true h, decide_eq_true (show b ∈ b :: g from List.mem_cons_self)]
    · have : (i ∈ b :: g) ↔ i ∈ g := ⟨fun z => (List.mem_cons.mp z).resolve_left e, fun z => List.mem_cons_of_mem _ z⟩
      simp [this]
theorem fI_far {K : KE} {G : Nat → Option Nat} {H : Heap} {a t n j : Nat} {lo hi : Int} (hT : TY K G H) (ga : G a = some t) (hs : rgT[t]? = some (.inr (0, n, (0, lo, hi)))) (hj : n ≤ j) : fI H a j = 0 := by
  obtain ⟨cs, s1, s2, s3, s4, s5⟩ := hT.at ga hs
  have s4 : cs.slots.size = n := s4
  unfold fI fV
  rw [s1]
  show (match (cs.slots[j]?).getD .null with | .int x => x | _ => 0) = 0
  rw [Array.getElem?_eq_none (by omega)]
  rfl
theorem gm_top {nl bl br : Nat → Int} {sp l r : Int} {m n q : Nat} {M M1 f f1 : Nat → Int} (hM : ∀ j : Nat, M j = 0) (hl : l = -1) (hq : q = n) (h : goM nl bl br sp m q [] (M, l, acL l f n) = (M1, r, acL r f1 n)) : goB nl bl br sp m n [] (-1, []) = (r, acL r f1 n) := by
  subst hl; subst hq
  rw [show M = fun _ => 0 from funext hM, show acL (-1) f q = [] from if_pos rfl] at h
  have e := goM_0 (nl := nl) (bl := bl) (br := br) (sp := sp) (m := m) (n := q) (a := (-1, []))
  rw [h] at e
  exact e.symm
/-- what set answers, and when -/
def seA (nl bl br : Nat → Int) (m n : Nat) (x1 x2 r : Int) : Prop := ((0 ≤ x1 ∧ x1 ≤ 99 ∧ 0 ≤ x2 ∧ x2 ≤ (n : Int)) ∧ r = saB nl bl br x1 m n x2) ∨ ((x1 < 0 ∨ 99 < x1 ∨ x2 < 0 ∨ (n : Int) < x2) ∧ r = -1)
theorem sa_0 {nl bl br : Nat → Int} {sp wt r : Int} {m n : Nat} {L : List Nat} (h : goB nl bl br sp m n [] (-1, []) = (r, L)) (hw : wt = 0 ∨ r = -1) : r = saB nl bl br sp m n wt := by
  unfold saB
  rw [h]
  show r = if wt = 0 ∨ r = -1 then r else _
  rw [if_pos hw]
theorem sa_at {nl bl br : Nat → Int} {sp wt r v : Int} {m n j : Nat} {f : Nat → Int} (h : goB nl bl br sp m n [] (-1, []) = (r, acL r f n)) (hw : 1 ≤ wt ∧ wt ≤ (n : Int)) (hr : r ≠ -1) (hj : (j : Int) = wt - 1) (hv : f j = v) (h0 : 0 ≤ v) : v = saB nl bl br sp m n wt := by
  unfold saB
  rw [h]
  show v = if wt = 0 ∨ r = -1 then r else (((acL r f n).getD (n - wt.toNat) 0 : Nat) : Int)
  rw [if_neg (by omega)]
  unfold acL
  rw [if_neg hr, show n - wt.toNat = n - 1 - j by omega, pr_getD (by omega), hv]
  omega
theorem se_eq {nl bl br nl' bl' br' : Nat → Int} {m n m' n' : Nat} {x1 x2 r q : Int} (h : seA nl bl br m n x1 x2 r) (g : seA nl' bl' br' m' n' x1 x2 q) (em : m = m') (en : n = n') (h1 : ∀ j : Nat, j < n → nl j = nl' j) (h2 : ∀ j : Nat, j < m → bl j = bl' j ∧ br j = br' j) : r = q := by
  subst em; subst en
  rcases h with ⟨a, b⟩ | ⟨a, b⟩
  · rcases g with ⟨_, d⟩ | ⟨c, _⟩
    · rw [b, d]; exact sa_c h1 h2
    · omega
  · rcases g with ⟨c, _⟩ | ⟨_, d⟩
    · omega
    · omega
set_option maxHeartbeats 4000000 in
set_option maxRecDepth 100000 in
theorem a_X5_ringsTogether_e (l : Launch) (K : KE) (G : Nat → Option Nat) (H : Heap) {a0 : Nat} {a1 : Nat} (x2 : Int32) (x3 : Int32) {kq : Nat} (sd : Int32) (bc : Int32) (g : List Nat) (br : Nat → Int) (hT : TY K G H) (ga0 : G a0 = some 104) (ga1 : G a1 = some 0) (hx2 : 0 ≤ x2.toInt ∧ x2.toInt ≤ 255) (hx3 : 0 ≤ x3.toInt ∧ x3.toInt ≤ 7) (gkq : G kq = some 33) (ekq : kq = fR H a1 (K.1.2 8 15)) (esd : sd = fI H a0 (K.1.2 5 4)) (ebc : bc = fI H a1 (K.1.2 8 16)) (hp0 : x3.toInt < bc.toInt) (hy0 : x2.toInt = ((ky g : Nat) : Int)) (hy1 : ∀ j : Nat, j < bc.toNatClampNeg → 0 ≤ br j ∧ br j ≤ 99) (hv_br : ∀ j : Nat, br j = (fI H kq j).toInt) : MX l K yX5_ringsTogether cX5_ringsTogether 5 (some .boolean) 1 13 0 0 [.ref a0, .ref a1, .int x2, .int x3] H (AE G [] H.size) (fun v H1 => ∃ (r : Int32), v = some (.int r) ∧ (0 ≤ r.toInt ∧ r.toInt ≤ 1) ∧ (HD ((r.toInt = 1 ∧ rtB br sd.toInt g x3.toNatClampNeg bc.toNatClampNeg 0 = true) ∨ (r.toInt = 0 ∧ rtB br sd.toInt g x3.toNatClampNeg bc.toNatClampNeg 0 = false))) ∧ TY K G H1) := by
  refine MX.of (by decide +kernel) (Nat.le_of_ble_eq_true rfl) ?_
  intro p e s m below meth c ls Q C hH hl hQ
  subst hH
  have C : CX p K s m _ meth c RX5 cX5_ringsTogether 5 (some .boolean) "ringsTogether" := C
  obtain ⟨hx, hb, hml, hown, hts, hKT, hr, hlocks, hnm⟩ := id C
  have hl : lv_has ls 5 [(0, .ref a0), (1, .ref a1), (2, .int x2), (3, .int x3)] := hl
  have hS : va_S (AE G [] s.heap.size) s.heap s.heap [] := va_S.rf
  have n_0 : (0 : Int32).toInt = 0 := rfl
  have n_1 : (1 : Int32).toInt = 1 := rfl
  have bsd := ty_fi (x := sd) (k := 4) esd hT ga0 rg_104 rfl
  have bbc := ty_fi (x := bc) (k := 16) ebc hT ga1 rg_0 rfl
  have f0_br := hv_br
  have J3 : ∀ (nf : Nat)  (ls340 : Array Slot) (H339 : Heap) (locsH339 : List Loc) (x342 : Int32), lv_has ls340 5 [(0, .ref a0), (1, .ref a1), (2, .int x2), (3, .int x3), (4, .int x342)] → TY K G H339 → va_S (AE G [] s.heap.size) s.heap H339 locsH339 → (0 ≤ x342.toInt ∧ x342.toInt ≤ 8) → (kq = fR H339 a1 (K.1.2 8 15)) → (sd = fI H339 a0 (K.1.2 5 4)) → (bc = fI H339 a1 (K.1.2 8 16)) → (∀ j : Nat, br j = (fI H339 kq j).toInt) → (8 - x342.toInt < (nf : Int)) → (rtB br sd.toInt g x3.toNatClampNeg bc.toNatClampNeg 0 = rtB br sd.toInt g x3.toNatClampNeg (bc.toNatClampNeg - x342.toNatClampNeg) x342.toNatClampNeg) → W p l e ({ frames := 1, cells := 0, slots := 0, locals := 13 } : Room) s m (([.ref a0, .ref a1, .int x2, .int x3] : List Value).toArray) below meth c H339 locsH339 0 0 Q (F0 m 3 ls340 []) := by
    intro nf
    induction nf with
    | zero =>
      intro  ls340 H339 locsH339 x342 hl341 hTH339 hSH339 bx342 cy343_0 cy343_1 cy343_2 fy343_br hm3 hrt3
      exfalso
      omega
    | succ nf ih3 =>
      intro  ls340 H339 locsH339 x342 hl341 hTH339 hSH339 bx342 cy343_0 cy343_1 cy343_2 fy343_br hm3 hrt3
      have cn_x342 := i_cl (x := x342) (by omega)
      have cn_bc := i_cl (x := bc) (by omega)
      have cn_x3 := i_cl (x := x3) (by omega)
      refine lv_iload hx hb dX5_ringsTogether_3 (lv_at hl341 4 rfl) ?_
      refine lv_aload_n hx hb dX5_ringsTogether_5 rfl (lv_at hl341 1 rfl) ?_
      refine x_gi C hTH339 (ci := 8) (k := 16) rfl inX8 (by decide) wF_X5_49 ga1 rg_0 rfl dX5_ringsTogether_6 (fun x344 ex344 bx344 => ?_)
      have ux344 : bc = x344 := (cy343_2).trans ex344.symm
      subst ux344
      refine lv_icmp_ge (tgt := 54) hx hb dX5_ringsTogether_9 (by decide) (fun c345 => ?_) (fun c345 => ?_)
      · have k346 := i_le c345
        refine lv_iconst (v := 1) hx hb dX5_ringsTogether_54 (by decide) ?_
        exact x_zret C hQ (Or.inr rfl) dX5_ringsTogether_55 hSH339 (by decide) (by decide) (⟨1, rfl, by decide, HD.mk (Or.inl ⟨by omega, hrt3.trans (rt_end (by omega))⟩), hTH339⟩)
      · have k346 := i_nle c345
        refine lv_iload_n hx hb dX5_ringsTogether_12 rfl (lv_at hl341 2 rfl) ?_
        refine lv_iload hx hb dX5_ringsTogether_13 (lv_at hl341 4 rfl) ?_
        refine lv_ishr hx hb dX5_ringsTogether_15 ?_
        refine lv_topi (fun x347 ex347 => ?_)
        refine lv_iconst (v := 1) hx hb dX5_ringsTogether_16 (by decide) ?_
        refine lv_iand hx hb dX5_ringsTogether_17 ?_
        refine lv_topi (fun x348 ex348 => ?_)
        have tx348 := i_and1 ex348
        refine lv_iconst (v := 1) hx hb dX5_ringsTogether_18 (by decide) ?_
        refine lv_icmp_ne (tgt := 48) hx hb dX5_ringsTogether_19 (by decide) (fun c349 => ?_) (fun c349 => ?_)
        · have k350 := i_ne c349
          obtain ⟨x351, ex351⟩ : ∃ y : Int32, y = x342 + 1 := ⟨_, rfl⟩
          have tx351 := i_add ex351 (by omega)
          refine lv_iinc (v := x351) (lv' := [(4, .int x351), (0, .ref a0), (1, .ref a1), (2, .int x2), (3, .int x3)]) hx hb dX5_ringsTogether_48 hl341 (k := 4) rfl (by rw [ex351]; rfl) (by decide) rfl (fun ls352 hl353 => ?_)
          refine lv_goto (tgt := 3) hx hb dX5_ringsTogether_51 (by decide) ?_
          have cn_x351 := i_cl (x := x351) (by omega)
          exact ih3  ls352 H339 locsH339 (x351) (lv_sub hl353 [1, 2, 3, 4, 0] rfl) hTH339 hSH339 (by have := i_rng x351; omega) cy343_0 cy343_1 cy343_2 fy343_br (by omega) (hrt3.trans (rt_go (by omega) (by omega) (Or.inl (fun h => by have q_ := (sb_mem hy0 (by omega) (by omega) ex347 ex348).mpr h; omega))))
        · have k350 := i_eq c349
          refine lv_aload_n hx hb dX5_ringsTogether_22 rfl (lv_at hl341 1 rfl) ?_
          refine x_gr C hTH339 (ci := 8) (k := 15) rfl inX8 (by decide) wF_X5_62 ga1 rg_0 rfl dX5_ringsTogether_23 (fun q354 eq354 gq354 => ?_)
          have uq354 : kq = q354 := (cy343_0).trans eq354.symm
          subst uq354
          refine lv_iload hx hb dX5_ringsTogether_26 (lv_at hl341 4 rfl) ?_
          refine x_ai C hTH339 gkq rg_33 ⟨by omega, by show _ < ((8 : Nat) : Int); omega⟩ dX5_ringsTogether_28 (fun x355 ex355 bx355 => ?_)
          have qvx355 : br x342.toNatClampNeg = x355.toInt := (fy343_br _).trans (congrArg Int32.toInt ex355.symm)
          have hn_x355 : 0 ≤ x355.toInt ∧ x355.toInt ≤ 99 := by have c_ := i_cl (x := x342) (by omega); have d_ := i_cl (x := bc) (by omega); have q_ := hy1 x342.toNatClampNeg (by omega); omega
          refine lv_aload_n hx hb dX5_ringsTogether_29 rfl (lv_at hl341 1 rfl) ?_
          refine x_gr C hTH339 (ci := 8) (k := 15) rfl inX8 (by decide) wF_X5_62 ga1 rg_0 rfl dX5_ringsTogether_30 (fun q356 eq356 gq356 => ?_)
          have uq356 : kq = q356 := (cy343_0).trans eq356.symm
          subst uq356
          refine lv_iload_n hx hb dX5_ringsTogether_33 rfl (lv_at hl341 3 rfl) ?_
          refine x_ai C hTH339 gkq rg_33 ⟨by omega, by show _ < ((8 : Nat) : Int); omega⟩ dX5_ringsTogether_34 (fun x357 ex357 bx357 => ?_)
          have qvx357 : br x3.toNatClampNeg = x357.toInt := (fy343_br _).trans (congrArg Int32.toInt ex357.symm)
          have hn_x357 : 0 ≤ x357.toInt ∧ x357.toInt ≤ 99 := by have c_ := i_cl (x := x3) (by omega); have d_ := i_cl (x := bc) (by omega); have q_ := hy1 x3.toNatClampNeg (by omega); omega
          refine lv_isub hx hb dX5_ringsTogether_35 ?_
          refine lv_topi (fun x358 ex358 => ?_)
          have tx358 := i_sub ex358 (by omega)
          refine va_mabs hx hb (hml.trans hl341.1.symm) hown (hts _ wM_X5_65) (hts _ wST_J9_abs_0f7a4) (hts _ wIN_J9) (hts _ wCD_J9_abs_0f7a4) (by decide) (Nat.le_of_ble_eq_true rfl) (by decide) (by decide) dX5_ringsTogether_36 ?_
          refine lv_topi (fun x359 ex359 => ?_)
          have tx359 := i_abs ex359 (by omega)
          refine lv_aload_n hx hb dX5_ringsTogether_39 rfl (lv_at hl341 0 rfl) ?_
          refine x_gi C hTH339 (ci := 5) (k := 4) rfl inX5 (by decide) wF_X5_31 ga0 rg_104 rfl dX5_ringsTogether_40 (fun x360 ex360 bx360 => ?_)
          have ux360 : sd = x360 := (cy343_1).trans ex360.symm
          subst ux360
          refine lv_icmp_le (tgt := 48) hx hb dX5_ringsTogether_43 (by decide) (fun c361 => ?_) (fun c361 => ?_)
          · have k362 := i_le c361
            obtain ⟨x363, ex363⟩ : ∃ y : Int32, y = x342 + 1 := ⟨_, rfl⟩
            have tx363 := i_add ex363 (by omega)
            refine lv_iinc (v := x363) (lv' := [(4, .int x363), (0, .ref a0), (1, .ref a1), (2, .int x2), (3, .int x3)]) hx hb dX5_ringsTogether_48 hl341 (k := 4) rfl (by rw [ex363]; rfl) (by decide) rfl (fun ls364 hl365 => ?_)
            refine lv_goto (tgt := 3) hx hb dX5_ringsTogether_51 (by decide) ?_
            have cn_x363 := i_cl (x := x363) (by omega)
            exact ih3  ls364 H339 locsH339 (x363) (lv_sub hl365 [1, 2, 3, 4, 0] rfl) hTH339 hSH339 (by have := i_rng x363; omega) cy343_0 cy343_1 cy343_2 fy343_br (by omega) (hrt3.trans (rt_go (by omega) (by omega) (Or.inr (by omega))))
          · have k362 := i_nle c361
            refine lv_iconst (v := 0) hx hb dX5_ringsTogether_46 (by decide) ?_
            exact x_zret C hQ (Or.inl rfl) dX5_ringsTogether_47 hSH339 (by decide) (by decide) (⟨0, rfl, by decide, HD.mk (Or.inr ⟨by omega, hrt3.trans (rt_no (by omega) ((sb_mem hy0 (by omega) (by omega) ex347 ex348).mp (by omega)) (by omega))⟩), hTH339⟩)
  refine lv_iconst (v := 0) hx hb dX5_ringsTogether_0 (by decide) ?_
  refine lv_istore (lv' := [(4, .int 0), (0, .ref a0), (1, .ref a1), (2, .int x2), (3, .int x3)]) hx hb dX5_ringsTogether_1 hl (by decide) rfl (fun ls366 hl367 => ?_)
  exact J3 ((8 - (0 : Int32).toInt).toNat + 1)  ls366 s.heap [] (0) (lv_sub hl367 [1, 2, 3, 4, 0] rfl) hT hS (by decide) ekq esd ebc f0_br (by omega) rfl

theorem up_w {f1 f0 : Nat → Int32} {q k : Nat} {v : Int32} (hq : f1 q = v) (hv : v.toInt = 1) (hn : ∀ j : Nat, j ≠ q → f1 j = f0 j) (e : q = k) : (fun j => (f1 j).toInt) = upM (fun j => (f0 j).toInt) k := by
  subst e
  funext j
  unfold upM
  by_cases c : j = q
  · rw [if_pos c, c, hq]; exact hv
  · rw [if_neg c, hn j c]
theorem pr_w {f1 f0 : Nat → Int} {k b : Nat} {g : List Nat} (h : (f1 k).toNat = b) (e : ∀ j : Nat, j < k → f1 j = f0 j) (hp : pr f0 k = g) : pr f1 (k + 1) = b :: g := by rw [pr, h, pr_c k e, hp]
theorem pr_tl {f : Nat → Int} {k b : Nat} {g : List Nat} (h : pr f (k + 1) = b :: g) : pr f k = g := (List.cons.inj h).2
