/-! ===== arrays of references that aren't typed yet ===== -/
def RAR (K : KE) (H : Heap) (q ti n : Nat) (f : Nat → Option Nat) : Prop := n0K K ≤ q ∧ ∃ cell : Cell, H[q]? = some cell ∧ cell.cls = K.2.1 ti ∧ cell.vm = .none ∧ cell.slots.size = n ∧ ∀ j : Nat, j < n → cell.slots[j]? = some (va_rf (f j))
theorem RAR.kept {K : KE} {H H1 : Heap} {q ti n : Nat} {f : Nat → Option Nat} (h : RAR K H q ti n f) (hq : H1[q]? = H[q]?) : RAR K H1 q ti n f := by
  obtain ⟨h0, c, h1, h2⟩ := h
  exact ⟨h0, c, hq.trans h1, h2⟩
theorem RAR.lt {K : KE} {H : Heap} {q ti n : Nat} {f : Nat → Option Nat} (h : RAR K H q ti n f) : q < H.size := by
  obtain ⟨-, c, h1, -⟩ := h
  exact (Array.getElem?_eq_some_iff.mp h1).1
theorem g_ne {G : Nat → Option Nat} {a b t : Nat} (ha : G a = some t) (hb : G b = none) : a ≠ b := by
  intro e
  rw [e, hb] at ha
  cases ha
theorem x_bornA {K : KE} {G : Nat → Option Nat} {H : Heap} {q t ti n u : Nat} {bb : Int} {f : Nat → Option Nat} (hT : TY K G H) (hn : G q = none) (hR : RAR K H q ti n f) (hs : rgT[t]? = some (.inr (ti, n, (2, (u : Int), bb)))) (hf : ∀ j, j < n → ∃ x, f j = some x ∧ G x = some u) : TY K (gU G q t) H := by
  refine hT.ext hn hs ?_ hR.1
  obtain ⟨-, c, h1, h2, h3, h4, h5⟩ := hR
  refine ⟨c, h1, h2, h3, h4, fun j hj => ⟨_, h5 j hj, ?_⟩⟩
  obtain ⟨x, e1, e2⟩ := hf j hj
  rw [e1]
  exact ⟨x, rfl, gU_mono hn _ _ e2⟩
theorem kn_i {v : Value} {H : Heap} {a i : Nat} {x : Int32} (h : fV H a i = .int x) : fI H a i = x := by simp [fI, h]
theorem kn_r {H : Heap} {a i : Nat} {x : Nat} (h : fV H a i = .ref x) : x = fR H a i := by simp [fR, h]
/-- what a raw object's fields hold -/
theorem RAW.fv {K : KE} {H : Heap} {a ci k N : Nat} {Cn : String} {T : u_T} {vs : List Value} {v : Value} (h : RAW K H a ci vs) (hc : vwCl[ci]? = some (Cn, T, N)) (hk : k < N) (hv : vs[k]? = some v) : fV H a (K.1.2 ci k) = v := by
  obtain ⟨-, q, h1, cell, h2, h3, h4, h5⟩ := h
  cases h1.symm.trans hc
  exact fV_at h2 (by rw [h5 k hk]; simp [vp_V, hv])
theorem gM_lt {G : Nat → Option Nat} {q N tu tv x : Nat} (h : x < q) : gM G q N tu tv x = G x := by
  show (if x = q then _ else if q < x ∧ x ≤ q + N then _ else G x) = _
  rw [if_neg (by omega), if_neg (by omega)]
theorem gM_at {G : Nat → Option Nat} {q N tu tv : Nat} : gM G q N tu tv q = some tu := if_pos rfl
section X5
variable {p : Program} {l : Launch} {e : Env} {R : Room} {s : State} {m : MethodId} {args : Array Value} {below : List Frame} {meth : Method} {c : Code} {H : Heap} {locs : List Loc} {cells slots : Nat} {Q : State → Prop}
variable {K : KE} {own nm : String} {b : ByteArray} {n : Nat} {r : Option FieldType} {pc : Nat} {ls : Array Slot} {rest st : List Value} {A A0 A1 : Nat → Prop} {H0 : Heap} {G : Nat → Option Nat} {post : Option Value → Heap → Prop} {mc ms : Nat}
/-- new C[N] -/
theorem x_anew (C : CX p K s m args meth c own b n r nm) (hT : TY K G H) (hS0 : va_S A H0 H locs) {idx ti N : Nat} {Cn : String} {v : Int32} (hw : Cond.classLink own idx Cn ∈ okW) (hao : va_AO Cn s) (ht : (tyL K.2.1)[ti]? = some (K.2.1 ti, .object Cn)) (hv : v.toInt = N) (hN : N ≤ 100000) (hR : cells + 1 ≤ R.cells ∧ slots + N ≤ R.slots) (hd : decode b pc = .ok (.anewarray idx, 3))
    (kk : ∀ H1 : Heap, RAR K H1 H.size ti N (fun _ => none) → TY K G H1 → va_S A H0 H1 locs → (∀ x : Nat, x < H.size → H1[x]? = H[x]?) → H1.size = H.size + 1 → W p l e R s m args below meth c H1 locs (cells + 1) (slots + N) Q (F0 m (pc + 3) ls (.ref H.size :: rest))) : W p l e R s m args below meth c H locs cells slots Q (F0 m pc ls (.int v :: rest)) := by
  obtain ⟨hx, hb, hml, hown, hts, hK, hr, hlocks, hnm⟩ := C
  have e0 : (0 : Int32).toInt = 0 := rfl
  have hv0 : ¬ v < 0 := by intro h; have := Int32.lt_iff_toInt_lt.mp h; omega
  have hvn : v.toNatClampNeg = N := by show v.toInt.toNat = N; omega
  subst hvn
  refine W.anew hx hb hown (hts _ hw) (va_AO.use hao) rfl hd rfl hv0 (by omega) hR.1 hR.2 fun cA kA comp f1 f2 f3 f4 => ?_
  have hcA : cA = K.2.1 ti := by
    obtain ⟨kA', comp', g1, g2, g3, g4⟩ := (hK.1.2 ti _ ht).2
    exact Option.some.inj (f1.symm.trans g4)
  subst hcA
  generalize hH1 : H.push ({ cls := K.2.1 ti, slots := Array.replicate v.toNatClampNeg .null, vm := .none } : Cell) = H1
  have z1 : H1.size = H.size + 1 := by rw [← hH1, Array.size_push]
  have o1 : ∀ q : Nat, q < H.size → H1[q]? = H[q]? := fun q hq => by rw [← hH1, Array.getElem?_push, if_neg (Nat.ne_of_lt hq)]
  have e1 : H1[H.size]? = some { cls := K.2.1 ti, slots := Array.replicate v.toNatClampNeg .null, vm := .none } := by rw [← hH1, Array.getElem?_push_size]
  exact kk H1 ⟨hT.2.2.1, _, e1, rfl, rfl, by simp, fun j hj => by simp [hj, va_rf]⟩ (hT.kept (fun q t hq => o1 q (hT.lt hq)) (by omega) (fun q hq => o1 q (Nat.lt_of_lt_of_le hq hT.2.2.1))) (x_S1 hS0 (by omega) o1) o1 z1
/-- a typed object goes into such an array -/
theorem x_astR (C : CX p K s m args meth c own b n r nm) (hT : TY K G H) (hS0 : va_S A H0 H locs) {q ti N v t ci M : Nat} {Cn : String} {T : u_T} {fs : List FT} {f : Nat → Option Nat} {j : Int32} (hR : RAR K H q ti N f) (hn : G q = none) (gv : G v = some t) (hs : rgT[t]? = some (.inl (ci, fs))) (hc : vwCl[ci]? = some (Cn, T, M)) (ht : (tyL K.2.1)[ti]? = some (K.2.1 ti, .object Cn)) (h0 : 0 ≤ j.toInt) (h1 : j.toInt < N) (hA : A q) (hd : decode b pc = .ok (.aastore, 1))
    (kk : ∀ (H1 : Heap) (locs1 : List Loc), RAR K H1 q ti N (va_up f j.toNatClampNeg (some v)) → TY K G H1 → va_S A H0 H1 locs1 → (∀ x : Nat, x ≠ q → H1[x]? = H[x]?) → H1.size = H.size → W p l e R s m args below meth c H1 locs1 cells slots Q (F0 m (pc + 1) ls rest)) : W p l e R s m args below meth c H locs cells slots Q (F0 m pc ls (.ref v :: .int j :: .ref q :: rest)) := by
  obtain ⟨hx, hb, hml, hown, hts, hK, hr, hlocks, hnm⟩ := C
  obtain ⟨i1, i2⟩ := x_in h0 h1
  obtain ⟨h00, cell, q1, q2, q3, q4, q5⟩ := hR
  obtain ⟨cv, v1, v2, v3, -⟩ := hT.at gv hs
  have hcls := (hK.1.1 ci _ hc).2
  obtain ⟨kA, comp, k1, k2, k3, -⟩ := (hK.1.2 ti _ ht).2
  have hcomp : comp = K.1.1 ci := Option.some.inj (k3.symm.trans hcls.1)
  subst hcomp
  obtain ⟨kC, hkC, -⟩ := hcls.2
  refine W.aast hx hb q1 (fun z h => by rw [q3] at h; cases h) (fun h => by rw [q3] at h; cases h) (by rw [q2]; exact k1) k2 rfl hkC ⟨fun h => i1 (Or.inl h), by rw [q4]; exact i2⟩ v1 (fun z h => by rw [v3] at h; cases h) (by rw [v2]; exact hkC) (by rw [v2]; exact va_assign hcls) rfl rfl hd fun H1 e1 z oq => ?_
  refine kk H1 _ ⟨h00, _, e1, q2, q3, by rw [k2_slotsz]; exact q4, fun i hi => ?_⟩ (hT.kept (fun x u hx => oq x (g_ne hx hn)) (by omega) (fun x hx => oq x (Nat.ne_of_lt (Nat.lt_of_lt_of_le hx h00)))) (hS0.put z oq hA) oq z
  by_cases e : i = j.toNatClampNeg
  · subst e
    rw [va_up_self]
    exact Cell.slots_setSlot_self _ (by rw [q4]; exact hi)
  · rw [va_up_ne _ _ e, slot_ne _ _ (Ne.symm e)]
    exact q5 i hi
end X5
