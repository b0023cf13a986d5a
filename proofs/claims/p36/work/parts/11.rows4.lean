/-! ===== System.arraycopy between typed int arrays ===== -/
theorem cp_pairs (at_ : Nat) : ∀ (xs : List Value) (i : Nat) (c : Cell), (c.storePairs at_ (xs.zipIdx i)).cls = c.cls ∧ (c.storePairs at_ (xs.zipIdx i)).vm = c.vm ∧ (c.storePairs at_ (xs.zipIdx i)).slots.size = c.slots.size ∧
    (∀ j : Nat, (j < at_ + i ∨ at_ + i + xs.length ≤ j) → (c.storePairs at_ (xs.zipIdx i)).slots[j]? = c.slots[j]?) ∧ (at_ + i + xs.length ≤ c.slots.size → ∀ k : Nat, k < xs.length → (c.storePairs at_ (xs.zipIdx i)).slots[at_ + i + k]? = xs[k]?)
  | [], i, c => ⟨rfl, rfl, rfl, fun _ _ => rfl, fun _ k hk => absurd hk (Nat.not_lt_zero k)⟩
  | x :: xs, i, c => by
    rw [List.zipIdx_cons]
    obtain ⟨h1, h2, h3, h4, h5⟩ := cp_pairs at_ xs (i + 1) (c.setSlot (at_ + i) x)
    show (((c.setSlot (at_ + i) x).storePairs at_ (xs.zipIdx (i + 1))).cls = c.cls ∧ _)
    refine ⟨h1, h2, h3.trans (k2_slotsz _ _ _), fun j hj => ?_, fun hs k hk => ?_⟩
    · simp only [List.length_cons] at hj
      show ((c.setSlot (at_ + i) x).storePairs at_ (xs.zipIdx (i + 1))).slots[j]? = _
      rw [h4 j (by omega), slot_ne _ _ (by omega)]
    · simp only [List.length_cons] at hs hk
      cases k with
      | zero =>
        show ((c.setSlot (at_ + i) x).storePairs at_ (xs.zipIdx (i + 1))).slots[at_ + i + 0]? = _
        rw [h4 (at_ + i + 0) (by omega)]
        exact Cell.slots_setSlot_self _ (by omega)
      | succ k =>
        have := h5 (by rw [k2_slotsz]; omega) k (by omega)
        rw [show at_ + (i + 1) + k = at_ + i + (k + 1) by omega] at this
        show ((c.setSlot (at_ + i) x).storePairs at_ (xs.zipIdx (i + 1))).slots[at_ + i + (k + 1)]? = _
        exact this
section X4
variable {p : Program} {l : Launch} {e : Env} {R : Room} {s : State} {m : MethodId} {args : Array Value} {below : List Frame} {meth : Method} {c : Code} {H : Heap} {locs : List Loc} {cells slots : Nat} {Q : State → Prop}
variable {K : KE} {own nm : String} {b : ByteArray} {n : Nat} {r : Option FieldType} {pc : Nat} {ls : Array Slot} {rest st : List Value} {A A0 A1 : Nat → Prop} {H0 : Heap} {G : Nat → Option Nat} {post : Option Value → Heap → Prop} {mc ms : Nat}
theorem x_copy (C : CX p K s m args meth c own b n r nm) (hT : TY K G H) (hS0 : va_S A H0 H locs) {idx a0 a1 t0 t1 n0 n1 : Nat} {lo0 hi0 lo1 hi1 : Int} {sp dp k : Int32} (hw : Cond.methodLink own idx arraycopyName ∈ okW) (hw2 : Cond.native arraycopyName ∈ okW) (hw3 : Cond.static arraycopyName ∈ okW) (hw4 : Cond.initialized "java/lang/System" ∈ okW)
    (g0 : G a0 = some t0) (g1 : G a1 = some t1) (hs0 : rgT[t0]? = some (.inr (0, n0, (0, lo0, hi0)))) (hs1 : rgT[t1]? = some (.inr (0, n1, (0, lo1, hi1)))) (hlh : lo1 ≤ lo0 ∧ hi0 ≤ hi1) (h1 : 0 ≤ sp.toInt) (h2 : 0 ≤ dp.toInt) (h3 : 0 ≤ k.toInt) (h4 : sp.toInt + k.toInt ≤ n0) (h5 : dp.toInt + k.toInt ≤ n1) (hA : A a1) (hsz : ls.size = n) (hR : 1 ≤ R.frames ∧ (rest.map fun v => v.category).sum + 40 ≤ R.locals) (hd : decode b pc = .ok (.invokestatic idx, 3))
    (kk : ∀ (H1 : Heap) (locs1 : List Loc), TY K G H1 → va_S A H0 H1 locs1 → H1.size = H.size → (∀ q : Nat, q ≠ a1 → H1[q]? = H[q]?) → (∀ j : Nat, j < n1 → (j : Int) < dp.toInt ∨ dp.toInt + k.toInt ≤ (j : Int) → fI H1 a1 j = fI H a1 j) → (∀ j : Nat, (j : Int) < k.toInt → fI H1 a1 (dp.toNatClampNeg + j) = fI H a0 (sp.toNatClampNeg + j)) → W p l e R s m args below meth c H1 locs1 cells slots Q (F0 m (pc + 3) ls rest)) : W p l e R s m args below meth c H locs cells slots Q (F0 m pc ls (.int k :: .int dp :: .ref a1 :: .int sp :: .ref a0 :: rest)) := by
  obtain ⟨hx, hb, hml, hown, hts, hK, hr, hlocks, hnm⟩ := C
  have e0 : (0 : Int32).toInt = 0 := rfl
  have f1 : ¬ sp < 0 := by intro h; have := i_lt h; omega
  have f2 : ¬ dp < 0 := by intro h; have := i_lt h; omega
  have f3 : ¬ k < 0 := by intro h; have := i_lt h; omega
  have c1 := i_cl h1
  have c2 := i_cl h2
  have c3 := i_cl h3
  obtain ⟨cs, s1, s2, s3, s4, s5⟩ := hT.at g0 hs0
  obtain ⟨cd, d1, d2, d3, d4, d5⟩ := hT.at g1 hs1
  have s4 : cs.slots.size = n0 := s4
  have d4 : cd.slots.size = n1 := d4
  obtain ⟨-, k0, hk0, cm0, hkk0⟩ := (hK.1.2 0 _ rfl).1 0 (fun _ => .null)
  intro T hT0 X
  have hgs : ∀ i, i < k.toNatClampNeg → ∃ x : Int32, cs.slots.getD (sp.toNatClampNeg + i) .null = .int x ∧ cs.slots[sp.toNatClampNeg + i]? = some (.int x) ∧ lo0 ≤ x.toInt ∧ x.toInt ≤ hi0 := by
    intro i hi
    obtain ⟨v, q1, q2⟩ := s5 (sp.toNatClampNeg + i) (show _ < n0 by omega)
    obtain ⟨x, rfl, q3⟩ := okv_int q2
    exact ⟨x, by rw [Array.getD_eq_getD_getElem?, q1]; rfl, q1, q3⟩
  obtain ⟨vm', X', step⟩ := X.arraycopy hx hown (hts _ hw) (hts _ hw2) (hts _ hw3) (hts _ hw4) (src := a0) (dst := a1) (cs := cs) (cd := cd) (srcPos := sp) (destPos := dp) (n := k) (by rw [hT0]; exact s1) (by rw [hT0]; exact d1)
    (fun q h => by rw [s3] at h; cases h) (fun q h => by rw [d3] at h; cases h) (fun h => by rw [s3] at h; cases h) (fun h => by rw [d3] at h; cases h) (by rw [s2]; exact hk0) (by rw [d2]; exact hk0) hkk0 hkk0 rfl f1 f2 f3 (by rw [s4]; omega) (by rw [d4]; omega)
    (fun vm₁ _ i hi => by obtain ⟨x, q1, -⟩ := hgs i hi; rw [q1]; exact ⟨rfl, trivial⟩)
    (g := F0 m pc ls (.int k :: .int dp :: .ref a1 :: .int sp :: .ref a0 :: rest)) rfl (hsz.trans hml.symm) (rest := rest) rfl (by rw [hb]; exact hd) hR.1 (by show 2 * 0 + _ + (nativeFrameWords "java/lang/System" "arraycopy" 5 + 11) ≤ _; have := hR.2; have e9 : nativeFrameWords "java/lang/System" "arraycopy" 5 + 11 ≤ 40 := (by decide +kernel); omega)
  have hcop : copied cs cd sp dp k = cd.storePairs dp.toNatClampNeg ((cs.stretch sp.toNatClampNeg k.toNatClampNeg).zipIdx 0) := rfl
  have hlen : (cs.stretch sp.toNatClampNeg k.toNatClampNeg).length = k.toNatClampNeg := by simp [Cell.stretch]
  have hval : ∀ i, i < k.toNatClampNeg → (cs.stretch sp.toNatClampNeg k.toNatClampNeg)[i]? = cs.slots[sp.toNatClampNeg + i]? := by
    intro i hi
    obtain ⟨x, q1, q2, -⟩ := hgs i hi
    simp only [Cell.stretch, List.getElem?_map]
    rw [List.getElem?_range hi, q2]
    simp only [Option.map_some]
    rw [q1]
  obtain ⟨p1, p2, p3, p4, p5⟩ := cp_pairs dp.toNatClampNeg (cs.stretch sp.toNatClampNeg k.toNatClampNeg) 0 cd
  rw [← hcop] at p1 p2 p3 p4 p5
  rw [hlen] at p4 p5
  have p5' : ∀ i, i < k.toNatClampNeg → (copied cs cd sp dp k).slots[dp.toNatClampNeg + i]? = cs.slots[sp.toNatClampNeg + i]? := by
    intro i hi
    have := p5 (by rw [d4]; omega) i hi
    rw [hval i hi] at this
    exact this
  have hl : a1 < H.size := (Array.getElem?_eq_some_iff.mp d1).1
  have hheap : ((T.setVm vm').setCell a1 (copied cs cd sp dp k)).heap = H.setIfInBounds a1 (copied cs cd sp dp k) := by rw [← hT0]; rfl
  generalize hH1 : H.setIfInBounds a1 (copied cs cd sp dp k) = H1 at hheap
  have z1 : H1.size = H.size := by rw [← hH1]; simp
  have oq : ∀ q : Nat, q ≠ a1 → H1[q]? = H[q]? := fun q hq => by rw [← hH1]; simp [Array.getElem?_setIfInBounds, Ne.symm hq]
  have e1 : H1[a1]? = some (copied cs cd sp dp k) := by rw [← hH1]; simp [Array.getElem?_setIfInBounds, hl]
  have hTY : TY K G H1 := by
    refine ⟨fun x u hx => ?_, hT.2.1, by have := hT.2.2.1; omega, hT.2.2.2.kept (fun q hq => oq q (Nat.ne_of_lt (Nat.lt_of_lt_of_le hq (hT.2.1 _ _ g1))))⟩
    by_cases e : x = a1
    · subst e
      cases g1.symm.trans hx
      refine ⟨_, hs1, _, e1, p1.trans d2, p2.trans d3, p3.trans d4, fun j hj => ?_⟩
      by_cases hj2 : j < dp.toNatClampNeg ∨ dp.toNatClampNeg + k.toNatClampNeg ≤ j
      · rw [p4 j (by omega)]
        exact d5 j hj
      · obtain ⟨v, q1, q2, q3, q4⟩ := hgs (j - dp.toNatClampNeg) (by omega)
        have := p5' (j - dp.toNatClampNeg) (by omega)
        rw [show dp.toNatClampNeg + (j - dp.toNatClampNeg) = j by omega, q2] at this
        exact ⟨_, this, v, rfl, by show lo1 ≤ _; omega, by show _ ≤ hi1; omega⟩
    · obtain ⟨σ, q1, q2⟩ := hT.1 x u hx
      exact ⟨σ, q1, q2.kept (oq x e)⟩
  obtain ⟨t, b1, b2⟩ := kk H1 _ hTY ⟨by rw [z1]; exact hS0.1, fun q q1 q2 => by rw [oq q (fun e => q2 (by rw [e]; exact hA))]; exact hS0.2.1 q q1 q2, fun q hq => by
      rcases List.mem_append.mp hq with h | h
      · exact hS0.2.2 q h
      · obtain ⟨z, -, hz⟩ := List.mem_map.mp h
        rw [← hz]
        exact hA⟩ z1 oq (fun j hj1 hj => by unfold fI fV; rw [e1, d1]; simp only [p4 j (by omega)]) (fun j hj => by
      obtain ⟨x, q1, q2, -⟩ := hgs j (by omega)
      have := p5' j (by omega)
      rw [q2] at this
      rw [fI_at e1 this, fI_at s1 q2]) _ hheap X'
  exact ⟨t, step t b1, b2⟩
end X4
