/-! ===== making cells ===== -/
def gU (G : Nat → Option Nat) (q t : Nat) : Nat → Option Nat := fun x => if x = q then some t else G x
theorem gU_at {G : Nat → Option Nat} {q t : Nat} : gU G q t q = some t := if_pos rfl
theorem gU_ne {G : Nat → Option Nat} {q t x : Nat} (h : x ≠ q) : gU G q t x = G x := if_neg h
theorem gU_mono {G : Nat → Option Nat} {q t : Nat} (h : G q = none) : ∀ x u, G x = some u → gU G q t x = some u := by
  intro x u hx
  rw [gU_ne (fun e => by rw [e, h] at hx; cases hx)]
  exact hx
/-- what is typed lies below -/
def GB (G : Nat → Option Nat) (z : Nat) : Prop := ∀ q, z ≤ q → G q = none
theorem TY.gb {K : KE} {G : Nat → Option Nat} {H : Heap} (h : TY K G H) : GB G H.size := by
  intro q hq
  cases e : G q with
  | none => rfl
  | some t => exact absurd (h.lt e) (by omega)
/-- an object that isn't typed yet: class number, fields -/
def RAW (K : KE) (H : Heap) (a ci : Nat) (vs : List Value) : Prop := n0K K ≤ a ∧ va_at K.1 vwCl (a, .inr (ci, vs)) H
theorem RAW.kept {K : KE} {H H1 : Heap} {a ci : Nat} {vs : List Value} (h : RAW K H a ci vs) (hq : H1[a]? = H[a]?) : RAW K H1 a ci vs := ⟨h.1, va_at.kept h.2 hq⟩
theorem RAW.lt {K : KE} {H : Heap} {a ci : Nat} {vs : List Value} (h : RAW K H a ci vs) : a < H.size := va_at.lt h.2
theorem TY.kept {K : KE} {G : Nat → Option Nat} {H H1 : Heap} (h : TY K G H) (hq : ∀ q t, G q = some t → H1[q]? = H[q]?) (hz : H.size ≤ H1.size) (ho : ∀ q : Nat, q < n0K K → H1[q]? = H[q]?) : TY K G H1 := by
  refine ⟨fun a t ha => ?_, h.2.1, Nat.le_trans h.2.2.1 hz, h.2.2.2.kept ho⟩
  obtain ⟨σ, h1, h2⟩ := h.1 a t ha
  exact ⟨σ, h1, h2.kept (hq a t ha)⟩
theorem TY.ext {K : KE} {G : Nat → Option Nat} {H : Heap} (h : TY K G H) {a t : Nat} {σ : SH} (hn : G a = none) (hs : rgT[t]? = some σ) (hc : CellOk K (gU G a t) H a σ) (ha0 : n0K K ≤ a) : TY K (gU G a t) H := by
  refine ⟨fun b u hb => ?_, fun b u hb => ?_, h.2.2.1, h.2.2.2⟩
  case refine_2 =>
    by_cases e : b = a
    · rw [e]; exact ha0
    · rw [gU_ne e] at hb; exact h.2.1 b u hb
  by_cases e : b = a
  · subst e
    rw [gU_at] at hb
    cases hb
    exact ⟨σ, hs, hc⟩
  · rw [gU_ne e] at hb
    obtain ⟨σ', h1, h2⟩ := h.1 b u hb
    exact ⟨σ', h1, h2.mono (gU_mono hn)⟩
theorem x_born {K : KE} {G : Nat → Option Nat} {H : Heap} {a t ci N : Nat} {Cn : String} {T : u_T} {fs : List FT} {vs : List Value} (hT : TY K G H) (hn : G a = none) (hR : RAW K H a ci vs) (hc : vwCl[ci]? = some (Cn, T, N)) (hs : rgT[t]? = some (.inl (ci, fs))) (hl : fs.length = N) (hok : ∀ (k : Nat) (f : FT), fs[k]? = some f → ∃ v, vs[k]? = some v ∧ OkV (gU G a t) f v) : TY K (gU G a t) H := by
  refine hT.ext hn hs ?_ hR.1
  obtain ⟨-, q, h1, cell, h2, h3, h4, h5⟩ := hR
  cases h1.symm.trans hc
  refine ⟨cell, h2, h3, h4, fun k f hk => ?_⟩
  obtain ⟨v, e1, e2⟩ := hok k f hk
  refine ⟨v, ?_, e2⟩
  have hkl : k < fs.length := (List.getElem?_eq_some_iff.mp hk).1
  rw [h5 k (by rw [← hl]; exact hkl)]
  simp [vp_V, e1]
section XN
variable {p : Program} {l : Launch} {e : Env} {R : Room} {s : State} {m : MethodId} {args : Array Value} {below : List Frame} {meth : Method} {c : Code} {H : Heap} {locs : List Loc} {cells slots : Nat} {Q : State → Prop}
variable {K : KE} {own nm : String} {b : ByteArray} {n : Nat} {r : Option FieldType} {pc : Nat} {ls : Array Slot} {rest st : List Value} {A A0 A1 : Nat → Prop} {H0 : Heap} {G : Nat → Option Nat} {post : Option Value → Heap → Prop} {mc ms : Nat}
theorem x_S1 {H1 : Heap} (hS : va_S A H0 H locs) (hz : H.size ≤ H1.size) (ho : ∀ x : Nat, x < H.size → H1[x]? = H[x]?) : va_S A H0 H1 locs :=
  ⟨Nat.le_trans hS.1 hz, fun q h1 h2 => (ho q (Nat.lt_of_lt_of_le h1 hS.1)).trans (hS.2.1 q h1 h2), hS.2.2⟩
theorem x_objInit (C : CX p K s m args meth c own b n r nm) {idx a : Nat} (hw : Cond.methodLink own idx objectInit ∈ okW) (hw2 : Cond.instanceMethod objectInit ∈ okW) (hw3 : Cond.code objectInit ⟨#[0xb1]⟩ 1 none ∈ okW) (hsz : ls.size = n) (hR : 1 ≤ R.frames ∧ (rest.map fun v => v.category).sum + 12 ≤ R.locals) (hd : decode b pc = .ok (.invokespecial idx, 3))
    (kk : W p l e R s m args below meth c H locs cells slots Q (F0 m (pc + 3) ls rest)) : W p l e R s m args below meth c H locs cells slots Q (F0 m pc ls (.ref a :: rest)) := by
  obtain ⟨hx, hb, hml, hown, hts, hK, hr, hlocks, hnm⟩ := C
  exact W.objInit hx hb hown (hts _ hw) (hts _ hw2) (hts _ hw3) rfl (by rw [hml]; exact hsz) rfl hd hR.1 (by show 2 * 0 + _ + 12 ≤ _; have := hR.2; omega) kk
/-- new int[N] -/
theorem x_newa (C : CX p K s m args meth c own b n r nm) (hT : TY K G H) (hS0 : va_S A H0 H locs) {t N : Nat} {lo hi : Int} {v : Int32} (hw : Cond.arrayClass .int ∈ okW) (hs : rgT[t]? = some (.inr (0, N, (0, lo, hi)))) (h0 : lo ≤ 0 ∧ 0 ≤ hi) (hv : v.toInt = N) (hN : N ≤ 100000) (hR : cells + 1 ≤ R.cells ∧ slots + N ≤ R.slots) (hd : decode b pc = .ok (.newarray .int, 2))
    (kk : ∀ H1 : Heap, TY K (gU G H.size t) H1 → va_S A H0 H1 locs → (∀ x : Nat, x < H.size → H1[x]? = H[x]?) → H1.size = H.size + 1 → (∀ j : Nat, fI H1 H.size j = 0) → W p l e R s m args below meth c H1 locs (cells + 1) (slots + N) Q (F0 m (pc + 2) ls (.ref H.size :: rest))) : W p l e R s m args below meth c H locs cells slots Q (F0 m pc ls (.int v :: rest)) := by
  obtain ⟨hx, hb, hml, hown, hts, hK, hr, hlocks, hnm⟩ := C
  have hv0 : ¬ v < 0 := by
    intro h
    have := Int32.lt_iff_toInt_lt.mp h
    have e0 : (0 : Int32).toInt = 0 := rfl
    omega
  have hvn : v.toNatClampNeg = N := by
    show v.toInt.toNat = N
    omega
  refine va_newaK (atype := .int) hx hb (hts (Cond.arrayClass .int) hw) rfl hd rfl hv0 hvn (by show N * 4 ≤ 536870912; omega) hR.1 hR.2 rfl fun H1 cA e1 z1 o1 hAr hNm => ?_
  have hcA : cA = K.2.1 0 := Option.some.inj (hNm.symm.trans (hK.1.2 0 _ rfl).2)
  subst hcA
  have hn : G H.size = none := hT.gb _ (Nat.le_refl _)
  have hT1 : TY K G H1 := hT.kept (fun q t hq => o1 q (hT.lt hq)) (by omega) (fun q hq => o1 q (Nat.lt_of_lt_of_le hq hT.2.2.1))
  refine kk H1 (hT1.ext hn hs ?_ hT.2.2.1) (x_S1 hS0 (by omega) o1) o1 z1 (fun j => ?_)
  · refine ⟨_, e1, rfl, rfl, arrV_size _ _ _, fun j hj => ⟨.int 0, by rw [arrV_read _ _ hj]; rfl, 0, rfl, h0.1, h0.2⟩⟩
  · by_cases hj : j < N
    · exact fI_at e1 (by rw [arrV_read _ _ hj]; rfl)
    · unfold fI fV
      rw [e1]
      have : (arrV (K.2.1 0) N (fun _ => defaultValue (newarray.typeOf .int))).slots[j]? = none := Array.getElem?_eq_none (by rw [arrV_size]; omega)
      simp [this]
/-- new C: an object that isn't typed yet -/
theorem x_new (C : CX p K s m args meth c own b n r nm) (hT : TY K G H) (hS0 : va_S A H0 H locs) {idx ci N : Nat} {Cn : String} {T : u_T} {ty0 : Nat → FieldType} {vs : List Value} (hc : vwCl[ci]? = some (Cn, T, N)) (hin : ∀ w ∈ u_ws Cn T N, w ∈ okW) (hty : ∀ k, k < N → parseFieldDescriptor (T k).2.2.1 = some (ty0 k)) (hw : Cond.classLink own idx Cn ∈ okW) (hw2 : Cond.instantiable Cn N ∈ okW) (hw3 : Cond.initialized Cn ∈ okW) (hfs : ∀ j, j < N → defaultValue (ty0 j) = vp_V vs j) (hR : cells + 1 ≤ R.cells ∧ slots + N ≤ R.slots) (hd : decode b pc = .ok (.new idx, 3))
    (kk : ∀ H1 : Heap, RAW K H1 H.size ci vs → TY K G H1 → va_S A H0 H1 locs → (∀ x : Nat, x < H.size → H1[x]? = H[x]?) → H1.size = H.size + 1 → W p l e R s m args below meth c H1 locs (cells + 1) (slots + N) Q (F0 m (pc + 3) ls (.ref H.size :: rest))) : W p l e R s m args below meth c H locs cells slots Q (F0 m pc ls rest) := by
  obtain ⟨hx, hb, hml, hown, hts, hK, hr, hlocks, hnm⟩ := C
  have hKn := hK.1.1 ci _ hc
  refine W.newcK hx hb hown (hts _ hw) (hts _ hw2) (hts _ hw3) rfl hd hR.1 hR.2 hKn.2.1 rfl fun H1 kC hkC e1 z1 o1 => ?_
  exact kk H1 ⟨hT.2.2.1, _, hc, (u_born ty0 hts hin hKn hkC e1 hty).to hfs⟩ (hT.kept (fun q t hq => o1 q (hT.lt hq)) (by omega) (fun q hq => o1 q (Nat.lt_of_lt_of_le hq hT.2.2.1))) (x_S1 hS0 (by omega) o1) o1 z1
theorem x_getR (C : CX p K s m args meth c own b n r nm) {ci k N idx a : Nat} {Cn : String} {T : u_T} {vs : List Value} {v : Value} (hR : RAW K H a ci vs) (hc : vwCl[ci]? = some (Cn, T, N)) (hin : ∀ w ∈ u_ws Cn T N, w ∈ okW) (hk : k < N) (hw : Cond.fieldLink own idx (T k).1 (T k).2.1 (T k).2.2.1 ∈ okW) (hv : vs[k]? = some v) (hd : decode b pc = .ok (.getfield idx, 3)) (kk : W p l e R s m args below meth c H locs cells slots Q (F0 m (pc + 3) ls (v :: rest))) : W p l e R s m args below meth c H locs cells slots Q (F0 m pc ls (.ref a :: rest)) := by
  obtain ⟨-, q, h1, cell, h2, h3, h4, h5⟩ := hR
  cases h1.symm.trans hc
  exact x_get C hc hin hk hw h2 h4 (by rw [h5 k hk]; simp [vp_V, hv]) hd kk
/-- a field of an object that isn't typed yet is written -/
theorem x_putR (C : CX p K s m args meth c own b n r nm) (hT : TY K G H) (hS0 : va_S A H0 H locs) {ci k N idx a : Nat} {Cn : String} {T : u_T} {ty0 : Nat → FieldType} {vs : List Value} {v : Value} (hR : RAW K H a ci vs) (hGa : G a = none) (hc : vwCl[ci]? = some (Cn, T, N)) (hin : ∀ w ∈ u_ws Cn T N, w ∈ okW) (hty : ∀ k, k < N → parseFieldDescriptor (T k).2.2.1 = some (ty0 k)) (hnm : ∀ a, a < N → ∀ b, b < N → a ≠ b → (T a).2.1 ≠ (T b).2.1) (hk : k < N) (hfin : (T k).2.2.2 = false ∨ ((T k).2.2.2 = true ∧ nm = "<init>" ∧ (T k).1 = own)) (hw : Cond.fieldLink own idx (T k).1 (T k).2.1 (T k).2.2.1 ∈ okW) (hl : k < vs.length) (hn1 : narrow (ty0 k) v = v) (hn2 : fits (ty0 k) v = true) (hA : A a) (hd : decode b pc = .ok (.putfield idx, 3))
    (kk : ∀ (H1 : Heap) (locs1 : List Loc), RAW K H1 a ci (vs.set k v) → TY K G H1 → va_S A H0 H1 locs1 → (∀ q : Nat, q ≠ a → H1[q]? = H[q]?) → H1.size = H.size → W p l e R s m args below meth c H1 locs1 cells slots Q (F0 m (pc + 3) ls rest)) : W p l e R s m args below meth c H locs cells slots Q (F0 m pc ls (v :: .ref a :: rest)) := by
  obtain ⟨hx, hb, hml, hown, hts, hK, hr, hlocks, hnm0⟩ := C
  have hap := x_apart hK hts hin ty0 hty hnm hc
  obtain ⟨h00, q, h1, cell, h2, h3, h4, h5⟩ := hR
  cases h1.symm.trans hc
  obtain ⟨hS, hfc, kC, hkC, hkind⟩ := hK.1.1 ci _ hc
  obtain ⟨cf, kf, fi, fd, hi, hsl⟩ := hS k hk
  have hlay := hts _ (hin _ (u_in_lay hk))
  unfold u_lay at hlay
  have hst := (u_facts hfc hkC (u_lays hts hin hk) hi).1
  have key : ∀ H' : Heap, H'[a]? = some (cell.setSlot (K.1.2 ci k) v) → H'.size = H.size → (∀ q, q ≠ a → H'[q]? = H[q]?) → W p l e R s m args below meth c H' (locs ++ [⟨a, K.1.2 ci k⟩]) cells slots Q (F0 m (pc + 3) ls rest) := fun H' e1 e2 e3 =>
    kk H' _ ⟨h00, _, hc, t_OB.to (V := updV (vp_V vs) k v) ⟨_, e1, h3, h4, t_set h5 hap hk v⟩ (fun j _ => vp_updV_set hl v j)⟩ (hT.kept (fun q t hq => e3 q (fun z => by rw [z, hGa] at hq; cases hq)) (by omega) (fun q hq => e3 q (Nat.ne_of_lt (Nat.lt_of_lt_of_le hq h00)))) (hS0.put e2 e3 hA) e3 e2
  rcases hfin with hfin | ⟨hfin, hni, hdecl⟩
  · rw [if_neg (by rw [hfin]; decide)] at hlay
    have h6 := u_store hfc hkC hkind hlay hi (hty k hk) hn1 hn2
    refine W.putK hx hb (f := fd) ⟨hown, hts _ hw, ⟨_, _, _, hi⟩, hst⟩ (by rw [h3]; exact h6) h2 h4 (by rw [hsl]; exact k2_hasslot (h5 k hk)) rfl rfl hd fun H' e1 e2 e3 => ?_
    rw [hsl] at e1 ⊢
    exact key H' e1 e2 e3
  · rw [if_pos hfin] at hlay
    have hcf : m.cls = cf := by
      obtain ⟨_, _, c', _, _, _, -, -, hf', -, -, -, hown2, -⟩ := Cond.laysFinal_spec hlay
      have e1 : c' = cf := by have := hi.symm.trans hf'; simp at this; exact this.1.symm
      rw [hdecl] at hown2
      rw [← e1]; exact Option.some.inj (hown.symm.trans hown2)
    have h6 := u_fits hfc hkC hkind (Or.inr hlay) hi (hty k hk) hn1 hn2
    refine W.putFinK hx hb hown (hts _ hw) hi hst hcf (by rw [hnm0]; exact hni) (by rw [h3]; exact h6) h2 h4 (by rw [hsl]; exact k2_hasslot (h5 k hk)) rfl rfl hd fun H' e1 e2 e3 => ?_
    rw [hsl] at e1 ⊢
    exact key H' e1 e2 e3
/-- what the tables say of int[][] -/
theorem ao_spec {U : State} (h : ao_ok U) : ∃ (comp c : ClassId) (k : Class), U.vm.findClass (FieldType.array .int).toString = some comp ∧ U.vm.classes[c]? = some k ∧ k.kind = .array comp (.array .int) ∧ U.vm.findClass ("[" ++ (FieldType.array .int).toString) = some c := by
  unfold ao_ok at h
  simp only [Cond.before, Cond.holds, Cond.value, beq_iff_eq] at h
  obtain ⟨comp, hc, h⟩ := Option.bind_eq_some_iff.mp h
  obtain ⟨c, hi, h⟩ := Option.bind_eq_some_iff.mp h
  obtain ⟨k, hk, h⟩ := Option.map_eq_some_iff.mp h
  obtain ⟨hlt, hp, -⟩ := Array.findIdx?_eq_some_iff_getElem.mp hi
  have hkk : U.vm.classes[c] = k := (Array.getElem?_eq_some_iff.mp hk).2
  rw [hkk] at hp
  cases hkind : k.kind with
  | array component ty =>
    rw [hkind] at h hp
    simp at h hp
    exact ⟨comp, c, k, hc, hk, by rw [hkind, hp, h.1], h.2⟩
  | _ => rw [hkind] at h; simp at h
/-- new int[N][M] -/
def gM (G : Nat → Option Nat) (q N to' ti' : Nat) : Nat → Option Nat := fun x => if x = q then some to' else if q < x ∧ x ≤ q + N then some ti' else G x
theorem x_mna (C : CX p K s m args meth c own b n r nm) (hT : TY K G H) (hS0 : va_S A H0 H locs) {idx tu tv N M : Nat} {lo hi bb : Int} {v w : Int32} (hw : Cond.arrayClass .int ∈ okW) (hwc : Cond.classLink own idx ("[" ++ (FieldType.array .int).toString) ∈ okW) (hs : rgT[tu]? = some (.inr (3, N, (2, (tv : Int), bb)))) (hs2 : rgT[tv]? = some (.inr (0, M, (0, lo, hi)))) (h0 : lo ≤ 0 ∧ 0 ≤ hi) (hv : v.toInt = N) (hwv : w.toInt = M) (hN : N ≤ 10000) (hM : M ≤ 10000) (hR : cells + (1 + N) ≤ R.cells ∧ slots + (N + N * M) ≤ R.slots) (hd : decode b pc = .ok (.multianewarray idx 2, 4))
    (kk : ∀ H1 : Heap, TY K (gM G H.size N tu tv) H1 → va_S A H0 H1 locs → (∀ x : Nat, x < H.size → H1[x]? = H[x]?) → H1.size = H.size + 1 + N → W p l e R s m args below meth c H1 locs (cells + 1 + N) (slots + N + N * M) Q (F0 m (pc + 4) ls (.ref H.size :: rest))) : W p l e R s m args below meth c H locs cells slots Q (F0 m pc ls (.int w :: .int v :: rest)) := by
  obtain ⟨hx, hb, hml, hown, hts, hK, hr, hlocks, hnm⟩ := C
  have e0 : (0 : Int32).toInt = 0 := rfl
  have hv0 : ¬ v < 0 := by intro h; have := Int32.lt_iff_toInt_lt.mp h; omega
  have hw0 : ¬ w < 0 := by intro h; have := Int32.lt_iff_toInt_lt.mp h; omega
  have hvn : v.toNatClampNeg = N := by show v.toInt.toNat = N; omega
  have hwn : w.toNatClampNeg = M := by show w.toInt.toNat = M; omega
  intro T hTh Xs
  obtain ⟨-, kA, hkA, comp, hkindA⟩ := (hK.1.2 3 _ rfl).1 0 (fun _ => .null)
  obtain ⟨-, kI, hkI, c2, hkindI⟩ := (hK.1.2 0 _ rfl).1 0 (fun _ => .null)
  have fA := (hK.1.2 3 _ rfl).2
  have fI0 : s.vm.findClass (FieldType.array .int).toString = some (K.2.1 0) := (hK.1.2 0 _ rfl).2
  have hcomp : comp = K.2.1 0 := by
    obtain ⟨cp, cA', kA', g1, g2, g3, g4⟩ := ao_spec hK.2.2.2.2.1
    cases fA.symm.trans g4
    cases hkA.symm.trans g2
    have : comp = cp := by rw [hkindA] at g3; cases g3; rfl
    rw [this]
    exact Option.some.inj (g1.symm.trans fI0)
  subst hcomp
  obtain ⟨T', hmm, X', step⟩ := mm_step Xs hx hown (hts _ hwc) fA hkA hkindA hkI hkindI (g := F0 m pc ls (.int w :: .int v :: rest)) rfl (by rw [hb]; exact hd) rfl hv0 hw0 hvn hwn hN hM hR.1 hR.2
  rw [hTh] at hmm
  obtain ⟨f1, hold, ⟨oc, f2, oc1, oc2, oc3, hslot⟩, hrow⟩ := hmm
  have hTY : TY K (gM G H.size N tu tv) T'.heap := by
    have hmono : ∀ x u, G x = some u → gM G H.size N tu tv x = some u := by
      intro x u hx
      have := hT.lt hx
      show (if x = H.size then _ else if H.size < x ∧ x ≤ H.size + N then _ else G x) = _
      rw [if_neg (by omega), if_neg (by omega)]
      exact hx
    refine ⟨fun a t ha => ?_, fun a t ha => ?_, by have := hT.2.2.1; omega, hT.2.2.2.kept (fun q hq => hold q (Nat.lt_of_lt_of_le hq hT.2.2.1))⟩
    case refine_2 =>
      rcases Nat.lt_or_ge a H.size with h | h
      · have : gM G H.size N tu tv a = G a := by
          show (if a = H.size then _ else if H.size < a ∧ a ≤ H.size + N then _ else G a) = _
          rw [if_neg (by omega), if_neg (by omega)]
        rw [this] at ha
        exact hT.2.1 a t ha
      · exact Nat.le_trans hT.2.2.1 h
    by_cases e1 : a = H.size
    · subst e1
      have : gM G H.size N tu tv H.size = some tu := if_pos rfl
      rw [this] at ha
      cases ha
      refine ⟨_, hs, _, f2, oc1, oc2, oc3, fun j hj => ⟨_, hslot j hj, H.size + 1 + j, rfl, ?_⟩⟩
      show (if H.size + 1 + j = H.size then _ else if H.size < H.size + 1 + j ∧ H.size + 1 + j ≤ H.size + N then some tv else G _) = some (Int.toNat (tv : Int))
      have hj' : j < N := hj
      rw [if_neg (by omega), if_pos (by omega)]
      rfl
    · by_cases e2 : H.size < a ∧ a ≤ H.size + N
      · have : gM G H.size N tu tv a = some tv := by
          show (if a = H.size then _ else if H.size < a ∧ a ≤ H.size + N then _ else G a) = _
          rw [if_neg e1, if_pos e2]
        rw [this] at ha
        cases ha
        have hr2 := hrow (a - H.size - 1) (by omega)
        rw [show H.size + 1 + (a - H.size - 1) = a by omega] at hr2
        refine ⟨_, hs2, _, hr2, rfl, rfl, by simp, fun j hj => ⟨.int 0, by simp [hj], 0, rfl, h0.1, h0.2⟩⟩
      · have : gM G H.size N tu tv a = G a := by
          show (if a = H.size then _ else if H.size < a ∧ a ≤ H.size + N then _ else G a) = _
          rw [if_neg e1, if_neg e2]
        rw [this] at ha
        obtain ⟨σ, h1, h2⟩ := hT.1 a t ha
        exact ⟨σ, h1, (h2.kept (hold a (hT.lt ha))).mono hmono⟩
  obtain ⟨t, a1, b1⟩ := kk T'.heap hTY (x_S1 hS0 (by omega) hold) hold f1 T' rfl X'
  refine ⟨t, step t ?_, b1⟩
  have ee : T.heap.size = H.size := by rw [hTh]
  rw [ee]
  exact a1
end XN
