/-! ===== contracts over the typed heap ===== -/
def AE (G : Nat → Option Nat) (eff : List Nat) (sz : Nat) : Nat → Prop := fun q => (∃ t, G q = some t ∧ t ∈ eff) ∨ sz ≤ q
def QX (post : Option Value → Heap → Prop) (A : Nat → Prop) : Array Value → State → Outcome → State → Prop := fun _ st oc t => ∃ v : Option Value, oc = .returned v ∧ post v t.heap ∧ va_F A st t
def MX (l : Launch) (K : KE) (y : MethodName) (b : ByteArray) (n : Nat) (r : Option FieldType) (fr lo mc ms : Nat) (av : List Value) (H0 : Heap) (A : Nat → Prop) (post : Option Value → Heap → Prop) : Prop :=
  Met l y (wsY y b n r) { frames := fr, cells := mc, slots := ms, locals := lo } (va_Pc av (fun U => U.heap = H0 ∧ KT K U)) (QX post A) mc ms A
def CX (p : Program) (K : KE) (s : State) (m : MethodId) (args : Array Value) (meth : Method) (c : Code) (own : String) (b : ByteArray) (n : Nat) (r : Option FieldType) (nm : String) : Prop :=
  p.tables.exec = Jvm.exec ∧ c.code = b ∧ c.maxLocals = n ∧ s.vm.findClass own = some m.cls ∧ (∀ w ∈ okW, w.before args s = true) ∧ KT K s ∧ meth.sig.returnType = r ∧ meth.locks = false ∧ meth.name = nm
theorem AE_sub {G G0 : Nat → Option Nat} {e1 e0 : List Nat} {z1 z0 : Nat} (hG : ∀ q, q < z0 → G q = G0 q) (hs : ∀ t ∈ e1, t ∈ e0) (hz : z0 ≤ z1) : ∀ q, AE G e1 z1 q → AE G0 e0 z0 q := by
  intro q h
  by_cases hq : q < z0
  · rcases h with ⟨t, h1, h2⟩ | h
    · exact Or.inl ⟨t, by rw [← hG q hq]; exact h1, hs t h2⟩
    · omega
  · exact Or.inr (Nat.not_lt.mp hq)
theorem AE_not {G : Nat → Option Nat} {e : List Nat} {z q t : Nat} (h : G q = some t) (hn : t ∉ e) (hz : q < z) : ¬ AE G e z q := by
  intro h2
  rcases h2 with ⟨u, h1, h3⟩ | h3
  · cases h.symm.trans h1
    exact hn h3
  · omega
theorem AE_in {G : Nat → Option Nat} {e : List Nat} {z q t : Nat} (h : G q = some t) (hn : t ∈ e) : AE G e z q := Or.inl ⟨t, h, hn⟩
theorem MX.of {l : Launch} {K : KE} {y : MethodName} {b : ByteArray} {n : Nat} {r : Option FieldType} {fr lo mc ms : Nat} {av : List Value} {H0 : Heap} {A : Nat → Prop} {post : Option Value → Heap → Prop} (hy : plainName y.cls = true) (hn : (lg_sl av).length ≤ n)
    (body : ∀ (p : Program) (e : Env) (s : State) (m : MethodId) (below : List Frame) (meth : Method) (c : Code) (ls : Array Slot) (Q : State → Prop), CX p K s m av.toArray meth c y.cls b n r y.name → s.heap = H0 → lv_has ls n (lv_args 0 av) → Q = MQ below (QX post A) av.toArray s mc ms A →
      W p l e { frames := fr, cells := mc, slots := ms, locals := lo } s m av.toArray below meth c H0 [] 0 0 Q (F0 m 0 ls [])) : MX l K y b n r fr lo mc ms av H0 A post := by
  refine Met.ofW (cc := b) (maxL := n) (ret := r) hy rfl ?_
  intro p e s m args below meth c s₁ B hml hv
  obtain ⟨rfl, hH, hK⟩ := hv
  have hts := atoms_spec (ws := wsY y b n r) B.pre
  have hl := lv_entry av (n := n) hn
  rw [lg_entry_eq]
  rw [hH]
  exact body p e s m below meth c _ _ ⟨B.exec, B.bytes, hml, findClass_of_methodNamed B.named, fun w hw => hts w (List.mem_cons_of_mem _ hw), hK, B.returns, B.notSynchronized, (name_of_methodNamed B.named B.method).1⟩ hH hl rfl
section XR
variable {p : Program} {l : Launch} {e : Env} {R : Room} {s : State} {m : MethodId} {args : Array Value} {below : List Frame} {meth : Method} {c : Code} {H : Heap} {locs : List Loc} {cells slots : Nat} {Q : State → Prop}
variable {K : KE} {own nm : String} {b : ByteArray} {n : Nat} {r : Option FieldType} {pc : Nat} {ls : Array Slot} {rest st : List Value} {A A0 A1 : Nat → Prop} {H0 : Heap} {G : Nat → Option Nat} {post : Option Value → Heap → Prop} {mc ms : Nat}
/-! returns -/
theorem x_iret (C : CX p K s m args meth c own b n (some .int) nm) (hQ : Q = MQ below (QX post A) args s mc ms A) {v : Int32} (hd : decode b pc = .ok (.ireturn, 1)) (hS : va_S A s.heap H locs) (h1 : cells ≤ mc) (h2 : slots ≤ ms) (hp : post (some (.int v)) H) : W p l e R s m args below meth c H locs cells slots Q (F0 m pc ls [.int v]) := by
  obtain ⟨hx, hb, hml, hown, hts, hK, hr, hlocks, hnm⟩ := C
  subst hQ
  exact W.widen h1 h2 (W.iret hx hb hr (fun t ht _ => ⟨_, rfl, by rw [ht]; exact hp, hS.F ht⟩) hS.2.2 hd)
theorem x_zret (C : CX p K s m args meth c own b n (some .boolean) nm) (hQ : Q = MQ below (QX post A) args s mc ms A) {v : Int32} (hv : v = 0 ∨ v = 1) (hd : decode b pc = .ok (.ireturn, 1)) (hS : va_S A s.heap H locs) (h1 : cells ≤ mc) (h2 : slots ≤ ms) (hp : post (some (.int v)) H) : W p l e R s m args below meth c H locs cells slots Q (F0 m pc ls [.int v]) := by
  obtain ⟨hx, hb, hml, hown, hts, hK, hr, hlocks, hnm⟩ := C
  subst hQ
  exact W.widen h1 h2 (W.zret hx hb hr (by rcases hv with rfl | rfl <;> rfl) (fun t ht _ => ⟨_, rfl, by rw [ht]; exact hp, hS.F ht⟩) hS.2.2 hd)
theorem x_vret (C : CX p K s m args meth c own b n none nm) (hQ : Q = MQ below (QX post A) args s mc ms A) (hd : decode b pc = .ok (.return_, 1)) (hS : va_S A s.heap H locs) (h1 : cells ≤ mc) (h2 : slots ≤ ms) (hp : post none H) : W p l e R s m args below meth c H locs cells slots Q (F0 m pc ls []) := by
  obtain ⟨hx, hb, hml, hown, hts, hK, hr, hlocks, hnm⟩ := C
  subst hQ
  exact W.widen h1 h2 (W.vret hx hb hr (fun t ht _ => ⟨_, rfl, by rw [ht]; exact hp, hS.F ht⟩) hS.2.2 hd)
theorem x_aret {C0 : String} (C : CX p K s m args meth c own b n (some (.object C0)) nm) (hQ : Q = MQ below (QX post A) args s mc ms A) {v : Value} (hv : v = .null ∨ ∃ a, v = .ref a) (hd : decode b pc = .ok (.areturn, 1)) (hS : va_S A s.heap H locs) (h1 : cells ≤ mc) (h2 : slots ≤ ms) (hp : post (some v) H) : W p l e R s m args below meth c H locs cells slots Q (F0 m pc ls [v]) := by
  obtain ⟨hx, hb, hml, hown, hts, hK, hr, hlocks, hnm⟩ := C
  subst hQ
  exact W.widen h1 h2 (W.aret hx hb hr (Or.inl ⟨_, rfl⟩) hv (fun t ht _ => ⟨_, rfl, by rw [ht]; exact hp, hS.F ht⟩) hS.2.2 hd)
/-! fields -/
theorem x_apart {ci N : Nat} {Cn : String} {T : u_T} (hK : KT K s) (hts : ∀ w ∈ okW, w.before args s = true) (hin : ∀ w ∈ u_ws Cn T N, w ∈ okW) (ty : Nat → FieldType) (hty : ∀ k, k < N → parseFieldDescriptor (T k).2.2.1 = some (ty k)) (hnm : ∀ a, a < N → ∀ b, b < N → a ≠ b → (T a).2.1 ≠ (T b).2.1) (hc : vwCl[ci]? = some (Cn, T, N)) : ∀ x y, x < N → y < N → x ≠ y → K.1.2 ci x ≠ K.1.2 ci y :=
  va_apart (own := "") hts hin ty hty hnm hK.1 hc
theorem x_get (C : CX p K s m args meth c own b n r nm) {ci k N idx a : Nat} {Cn : String} {T : u_T} {v : Value} {cell : Cell} (hc : vwCl[ci]? = some (Cn, T, N)) (hin : ∀ w ∈ u_ws Cn T N, w ∈ okW) (hk : k < N) (hw : Cond.fieldLink own idx (T k).1 (T k).2.1 (T k).2.2.1 ∈ okW)
    (h1 : H[a]? = some cell) (h2 : cell.vm = .none) (h3 : cell.slots[K.1.2 ci k]? = some v) (hd : decode b pc = .ok (.getfield idx, 3)) (kk : W p l e R s m args below meth c H locs cells slots Q (F0 m (pc + 3) ls (v :: rest))) : W p l e R s m args below meth c H locs cells slots Q (F0 m pc ls (.ref a :: rest)) := by
  obtain ⟨hx, hb, hml, hown, hts, hK, hr, hlocks, hnm⟩ := C
  obtain ⟨hS, hfc, kC, hkC, hkind⟩ := hK.1.1 ci _ hc
  obtain ⟨cf, kf, fi, f, hi, hsl⟩ := hS k hk
  exact W.getf hx hb hown (hts _ hw) hi (u_facts hfc hkC (u_lays hts hin hk) hi).1 h1 (by rw [h2]; exact fun h => by cases h) (v := v) (by rw [hsl]; exact h3) rfl rfl hd kk
/-- an int field is read -/
theorem x_geti (C : CX p K s m args meth c own b n r nm) (hT : TY K G H) {ci k N idx a t : Nat} {Cn : String} {T : u_T} {fs : List FT} {lo hi : Int} (hc : vwCl[ci]? = some (Cn, T, N)) (hin : ∀ w ∈ u_ws Cn T N, w ∈ okW) (hk : k < N) (hw : Cond.fieldLink own idx (T k).1 (T k).2.1 (T k).2.2.1 ∈ okW)
    (hG : G a = some t) (hs : rgT[t]? = some (.inl (ci, fs))) (hf : fs[k]? = some (0, lo, hi)) (hd : decode b pc = .ok (.getfield idx, 3))
    (kk : lo ≤ (fI H a (K.1.2 ci k)).toInt ∧ (fI H a (K.1.2 ci k)).toInt ≤ hi → W p l e R s m args below meth c H locs cells slots Q (F0 m (pc + 3) ls (.int (fI H a (K.1.2 ci k)) :: rest))) : W p l e R s m args below meth c H locs cells slots Q (F0 m pc ls (.ref a :: rest)) := by
  obtain ⟨cell, h1, h2, -, h3, h4, h5⟩ := hT.fint hG hs hf
  exact x_get C hc hin hk hw h1 h2 h3 hd (kk ⟨h4, h5⟩)
theorem x_getr (C : CX p K s m args meth c own b n r nm) (hT : TY K G H) {ci k N idx a t : Nat} {Cn : String} {T : u_T} {fs : List FT} {cc bb : Int} (hc : vwCl[ci]? = some (Cn, T, N)) (hin : ∀ w ∈ u_ws Cn T N, w ∈ okW) (hk : k < N) (hw : Cond.fieldLink own idx (T k).1 (T k).2.1 (T k).2.2.1 ∈ okW)
    (hG : G a = some t) (hs : rgT[t]? = some (.inl (ci, fs))) (hf : fs[k]? = some (2, cc, bb)) (hd : decode b pc = .ok (.getfield idx, 3))
    (kk : G (fR H a (K.1.2 ci k)) = some cc.toNat → W p l e R s m args below meth c H locs cells slots Q (F0 m (pc + 3) ls (.ref (fR H a (K.1.2 ci k)) :: rest))) : W p l e R s m args below meth c H locs cells slots Q (F0 m pc ls (.ref a :: rest)) := by
  obtain ⟨cell, h1, h2, -, h3, h4⟩ := hT.fref hG hs hf
  exact x_get C hc hin hk hw h1 h2 h3 hd (kk h4)
theorem x_getn (C : CX p K s m args meth c own b n r nm) (hT : TY K G H) {ci k N idx a t : Nat} {Cn : String} {T : u_T} {fs : List FT} {cc bb : Int} (hc : vwCl[ci]? = some (Cn, T, N)) (hin : ∀ w ∈ u_ws Cn T N, w ∈ okW) (hk : k < N) (hw : Cond.fieldLink own idx (T k).1 (T k).2.1 (T k).2.2.1 ∈ okW)
    (hG : G a = some t) (hs : rgT[t]? = some (.inl (ci, fs))) (hf : fs[k]? = some (3, cc, bb)) (hd : decode b pc = .ok (.getfield idx, 3))
    (k0 : fV H a (K.1.2 ci k) = .null → W p l e R s m args below meth c H locs cells slots Q (F0 m (pc + 3) ls (.null :: rest)))
    (k1 : fV H a (K.1.2 ci k) = .ref (fR H a (K.1.2 ci k)) → G (fR H a (K.1.2 ci k)) = some cc.toNat → W p l e R s m args below meth c H locs cells slots Q (F0 m (pc + 3) ls (.ref (fR H a (K.1.2 ci k)) :: rest))) : W p l e R s m args below meth c H locs cells slots Q (F0 m pc ls (.ref a :: rest)) := by
  obtain ⟨cell, h1, h2, -, h3, h4⟩ := hT.fnul hG hs hf
  rcases h4 with h4 | ⟨h4, h5⟩
  · exact x_get C hc hin hk hw h1 h2 (by rw [h3, h4]) hd (k0 h4)
  · exact x_get C hc hin hk hw h1 h2 (by rw [h3, h4]) hd (k1 h4 h5)
/-- a field of a typed cell is written -/
theorem x_put (C : CX p K s m args meth c own b n r nm) (hT : TY K G H) (hS0 : va_S A H0 H locs) {ci k N idx a t : Nat} {Cn : String} {T : u_T} {fs : List FT} {f : FT} {ty0 : Nat → FieldType} {v : Value} (hc : vwCl[ci]? = some (Cn, T, N)) (hin : ∀ w ∈ u_ws Cn T N, w ∈ okW) (hty : ∀ k, k < N → parseFieldDescriptor (T k).2.2.1 = some (ty0 k)) (hnm : ∀ a, a < N → ∀ b, b < N → a ≠ b → (T a).2.1 ≠ (T b).2.1) (hk : k < N) (hfin : (T k).2.2.2 = false) (hw : Cond.fieldLink own idx (T k).1 (T k).2.1 (T k).2.2.1 ∈ okW)
    (hG : G a = some t) (hs : rgT[t]? = some (.inl (ci, fs))) (hlen : fs.length = N) (hf : fs[k]? = some f) (hv : OkV G f v) (hn1 : narrow (ty0 k) v = v) (hn2 : fits (ty0 k) v = true) (hA : A a) (hd : decode b pc = .ok (.putfield idx, 3))
    (kk : ∀ (H1 : Heap) (locs1 : List Loc), TY K G H1 → va_S A H0 H1 locs1 → Wr H H1 a (K.1.2 ci k) v → W p l e R s m args below meth c H1 locs1 cells slots Q (F0 m (pc + 3) ls rest)) : W p l e R s m args below meth c H locs cells slots Q (F0 m pc ls (v :: .ref a :: rest)) := by
  obtain ⟨hx, hb, hml, hown, hts, hK, hr, hlocks, hnm0⟩ := C
  have hap := x_apart hK hts hin ty0 hty hnm hc
  obtain ⟨cell, h1, h2, h3, h4⟩ := hT.at hG hs
  obtain ⟨v0, q1, -⟩ := h4 k _ hf
  obtain ⟨hS, hfc, kC, hkC, hkind⟩ := hK.1.1 ci _ hc
  obtain ⟨cf, kf, fi, fd, hi, hsl⟩ := hS k hk
  have hlay := hts _ (hin _ (u_in_lay hk))
  unfold u_lay at hlay
  rw [if_neg (by rw [hfin]; decide)] at hlay
  have h6 := u_store hfc hkC hkind hlay hi (hty k hk) hn1 hn2
  refine W.putK hx hb (f := fd) ⟨hown, hts _ hw, ⟨_, _, _, hi⟩, (u_facts hfc hkC (u_lays hts hin hk) hi).1⟩ (by rw [h2]; exact h6) h1 h3 (by rw [hsl]; exact k2_hasslot q1) rfl rfl hd fun H' e1 e2 e3 => ?_
  rw [hsl] at e1 ⊢
  exact kk H' _ (hT.putF hG hs (by rw [hlen]; exact hap) hf hv h1 e1 e3) (hS0.put e2 e3 hA) ⟨e2, e3, fV_at e1 (Cell.slots_setSlot_self _ (k2_hasslot q1)), fun j hj => fV_setne h1 e1 hj⟩
/-! arrays -/
theorem x_arr {U : State} (hK : KT K U) {ti : Nat} {ty : FieldType} (ht : (tyL K.2.1)[ti]? = some (K.2.1 ti, ty)) {cell : Cell} (h1 : cell.cls = K.2.1 ti) (h2 : cell.vm = .none) : U.isArrayOf cell ty := by
  obtain ⟨-, kA, hkA, comp, hk⟩ := (hK.1.2 ti _ ht).1 0 (fun _ => .null)
  exact ⟨(fun q h => by rw [h2] at h; cases h), kA, (by rw [h1]; exact hkA), comp, hk⟩
theorem x_in {j : Int32} {N : Nat} (h0 : 0 ≤ j.toInt) (h1 : j.toInt < N) : ¬ (j < 0 ∨ N ≤ j.toNatClampNeg) ∧ j.toNatClampNeg < N := by
  have := vp_in_iff.mpr ⟨h0, h1⟩
  exact ⟨this, Nat.not_le.mp fun q => this (Or.inr q)⟩
theorem x_iald (C : CX p K s m args meth c own b n r nm) (hT : TY K G H) {a t N : Nat} {lo hi : Int} {j : Int32} (hG : G a = some t) (hs : rgT[t]? = some (.inr (0, N, (0, lo, hi)))) (h0 : 0 ≤ j.toInt) (h1 : j.toInt < N) (hd : decode b pc = .ok (.iaload, 1))
    (kk : lo ≤ (fI H a j.toNatClampNeg).toInt ∧ (fI H a j.toNatClampNeg).toInt ≤ hi → W p l e R s m args below meth c H locs cells slots Q (F0 m (pc + 1) ls (.int (fI H a j.toNatClampNeg) :: rest))) : W p l e R s m args below meth c H locs cells slots Q (F0 m pc ls (.int j :: .ref a :: rest)) := by
  obtain ⟨hx, hb, hml, hown, hts, hK, hr, hlocks, hnm⟩ := C
  obtain ⟨i1, i2⟩ := x_in h0 h1
  obtain ⟨cell, q1, q2, q3, q4, q5, q6, q7⟩ := hT.aint hG hs i2
  exact W.iald hx hb q1 (x_arr hK (ti := 0) rfl q3 q2) (by rw [q2]; exact fun h => by cases h) (by rw [q4]; exact i1) q5 rfl rfl hd (kk ⟨q6, q7⟩)
theorem x_iast (C : CX p K s m args meth c own b n r nm) (hT : TY K G H) (hS0 : va_S A H0 H locs) {a t N : Nat} {lo hi : Int} {j x : Int32} (hG : G a = some t) (hs : rgT[t]? = some (.inr (0, N, (0, lo, hi)))) (h0 : 0 ≤ j.toInt) (h1 : j.toInt < N) (hv : lo ≤ x.toInt ∧ x.toInt ≤ hi) (hA : A a) (hd : decode b pc = .ok (.iastore, 1))
    (kk : ∀ (H1 : Heap) (locs1 : List Loc), TY K G H1 → va_S A H0 H1 locs1 → Wr H H1 a j.toNatClampNeg (.int x) → W p l e R s m args below meth c H1 locs1 cells slots Q (F0 m (pc + 1) ls rest)) : W p l e R s m args below meth c H locs cells slots Q (F0 m pc ls (.int x :: .int j :: .ref a :: rest)) := by
  obtain ⟨hx, hb, hml, hown, hts, hK, hr, hlocks, hnm⟩ := C
  obtain ⟨i1, i2⟩ := x_in h0 h1
  obtain ⟨cell, q1, q2, q3, q4, q5, q6, q7⟩ := hT.aint hG hs i2
  refine W.iast hx hb q1 (x_arr hK (ti := 0) rfl q3 q2) (by rw [q2]; exact fun h => by cases h) (by rw [q4]; exact i1) rfl rfl hd fun H1 e1 e2 e3 => ?_
  exact kk H1 _ (hT.putA hG hs i2 ⟨x, rfl, hv.1, hv.2⟩ q1 e1 e3) (hS0.put e2 e3 hA) ⟨e2, e3, fV_at e1 (Cell.slots_setSlot_self _ (k2_hasslot q5)), fun j hj => fV_setne q1 e1 hj⟩
theorem x_aald (C : CX p K s m args meth c own b n r nm) (hT : TY K G H) {a t ti N : Nat} {cc bb : Int} {j : Int32} {ty : FieldType} (ht : (tyL K.2.1)[ti]? = some (K.2.1 ti, ty)) (hty : ty.isReference = true) (hG : G a = some t) (hs : rgT[t]? = some (.inr (ti, N, (2, cc, bb)))) (h0 : 0 ≤ j.toInt) (h1 : j.toInt < N) (hd : decode b pc = .ok (.aaload, 1))
    (kk : G (fR H a j.toNatClampNeg) = some cc.toNat → W p l e R s m args below meth c H locs cells slots Q (F0 m (pc + 1) ls (.ref (fR H a j.toNatClampNeg) :: rest))) : W p l e R s m args below meth c H locs cells slots Q (F0 m pc ls (.int j :: .ref a :: rest)) := by
  obtain ⟨hx, hb, hml, hown, hts, hK, hr, hlocks, hnm⟩ := C
  obtain ⟨i1, i2⟩ := x_in h0 h1
  obtain ⟨cell, q1, q2, q3, q4, q5, q6⟩ := hT.aref hG hs i2
  exact W.aald hx hb q1 (x_arr hK ht q3 q2) hty (by rw [q2]; exact fun h => by cases h) (by rw [q4]; exact i1) q5 rfl rfl hd (kk q6)
theorem x_alen (C : CX p K s m args meth c own b n r nm) (hT : TY K G H) {a t ti N : Nat} {f : FT} {v : Int32} {ty : FieldType} (ht : (tyL K.2.1)[ti]? = some (K.2.1 ti, ty)) (hG : G a = some t) (hs : rgT[t]? = some (.inr (ti, N, f))) (hv : Int32.ofNat N = v) (hd : decode b pc = .ok (.arraylength, 1))
    (kk : W p l e R s m args below meth c H locs cells slots Q (F0 m (pc + 1) ls (.int v :: rest))) : W p l e R s m args below meth c H locs cells slots Q (F0 m pc ls (.ref a :: rest)) := by
  obtain ⟨hx, hb, hml, hown, hts, hK, hr, hlocks, hnm⟩ := C
  obtain ⟨cell, q1, q2, q3, q4⟩ := hT.alen hG hs
  exact W.alen hx hb q1 (x_arr hK ht q3 q2) (by rw [q4]; exact hv) rfl rfl hd kk
/-! calls -/
theorem x_go {a : Array Value} (hr : va_Run p l e R s m args below meth c H locs cells slots mc ms (F0 m pc ls st) rest (QX post A1 a) A1) (hS : va_S A0 H0 H locs) (hA : ∀ q, A1 q → A0 q)
    (kk : ∀ (v : Option Value) (H1 : Heap) (locs1 : List Loc), post v H1 → H.size ≤ H1.size → (∀ q : Nat, q < H.size → ¬ A1 q → H1[q]? = H[q]?) → va_S A0 H0 H1 locs1 → W p l e R s m args below meth c H1 locs1 (cells + mc) (slots + ms) Q (F0 m (pc + 3) ls (v.toList ++ rest))) : W p l e R s m args below meth c H locs cells slots Q (F0 m pc ls st) := by
  intro T hT X
  obtain ⟨v, st₀, t, T', L, h0, X', hL, e1, e2, ⟨v', hv, hp, hz, hk⟩, stp⟩ := hr T hT X
  cases hv
  rw [h0] at hz hk
  obtain ⟨t2, a1, b1⟩ := kk v T'.heap (locs ++ L) (by rw [e1]; exact hp) (by rw [e1]; exact hz) (fun q h1 h2 => by rw [e1]; exact hk q h1 h2)
    ⟨Nat.le_trans hS.1 (by rw [e1]; exact hz), fun q h1 h2 => by rw [e1, hk q (Nat.lt_of_lt_of_le h1 hS.1) (fun z => h2 (hA q z))]; exact hS.2.1 q h1 h2, fun q hq => by
      rcases List.mem_append.mp hq with h | h
      · exact hS.2.2 q h
      · exact hA _ (hL q h)⟩ T' rfl X'
  exact ⟨t2, stp t2 a1, b1⟩
/-- a method's own facts -/
def YV (y : MethodName) (b2 : ByteArray) (n2 : Nat) (r2 : Option FieldType) (np : Nat) : Prop := Cond.instanceMethod y ∈ okW ∧ Cond.selects y.cls y y ∈ okW ∧ Cond.initialized y.cls ∈ okW ∧ Cond.code y b2 n2 r2 ∈ okW ∧ y.cls ≠ "java/lang/invoke/MethodHandle" ∧ y.cls ≠ "java/lang/invoke/VarHandle" ∧ (parseMethodDescriptor y.desc).map (fun d => d.parameters.length) = some np
def YS (y : MethodName) (b2 : ByteArray) (n2 : Nat) (r2 : Option FieldType) (np : Nat) : Prop := Cond.static y ∈ okW ∧ Cond.initialized y.cls ∈ okW ∧ Cond.code y b2 n2 r2 ∈ okW ∧ y.cls ≠ "java/lang/invoke/MethodHandle" ∧ y.cls ≠ "java/lang/invoke/VarHandle" ∧ (parseMethodDescriptor y.desc).map (fun d => d.parameters.length) = some np
def YI (y : MethodName) (b2 : ByteArray) (n2 : Nat) (np : Nat) : Prop := Cond.instanceMethod y ∈ okW ∧ Cond.initialized y.cls ∈ okW ∧ Cond.code y b2 n2 none ∈ okW ∧ y.cls ≠ "java/lang/invoke/MethodHandle" ∧ y.cls ≠ "java/lang/invoke/VarHandle" ∧ (parseMethodDescriptor y.desc).map (fun d => d.parameters.length) = some np
theorem x_blind {av : List Value} {H0 : Heap} : FrameBlind (va_Pc av (fun U => U.heap = H0 ∧ KT K U)) := fun a U g mk q => ⟨q.1, q.2.1, KT.same (u := U) (U := U.calling g mk a) rfl q.2.2⟩
theorem x_callB {y : MethodName} {b2 : ByteArray} {n2 : Nat} {r2 : Option FieldType} {fr lo mc ms np idx : Nat} (hts : ∀ w ∈ okW, w.before args s = true) (hcode : Cond.code y b2 n2 r2 ∈ okW) (hini : Cond.initialized y.cls ∈ okW) (hy : y.cls ≠ "java/lang/invoke/MethodHandle" ∧ y.cls ≠ "java/lang/invoke/VarHandle" ∧ (parseMethodDescriptor y.desc).map (fun d => d.parameters.length) = some np) (hw : Cond.methodLink own idx y ∈ okW) (hR : fr + 1 ≤ R.frames ∧ 8 + (n2 + 11) + lo ≤ R.locals) : CallB R s args own idx y b2 n2 r2 (wsY y b2 n2 r2) { frames := fr, cells := mc, slots := ms, locals := lo } mc ms np :=
  callB_of np hts (good_ws (fun _ h => h) hcode) rfl rfl rfl (hts _ hini) (hts _ hw) hy hR
theorem x_V (C : CX p K s m args meth c own b n r nm) {y : MethodName} {b2 : ByteArray} {n2 : Nat} {r2 : Option FieldType} {fr lo np idx a : Nat} {As : List Value} (hM : MX l K y b2 n2 r2 fr lo mc ms (.ref a :: As) H A1 post) (hY : YV y b2 n2 r2 np) (hw : Cond.methodLink own idx y ∈ okW)
    (hR : (fr + 1 ≤ R.frames ∧ 8 + (n2 + 11) + lo ≤ R.locals) ∧ cells + mc ≤ R.cells ∧ slots + ms ≤ R.slots) (hrecv : ∃ cell : Cell, H[a]? = some cell ∧ cell.vm.isStatics = false ∧ s.vm.findClass y.cls = some cell.cls) (hn : As.length = np) (hsz : ls.size = n) (hst : st = As.reverse ++ .ref a :: rest) (hrm : (rest.map fun v => v.category).sum ≤ 8) (hd : decode b pc = .ok (.invokevirtual idx, 3)) (hS : va_S A0 H0 H locs) (hA : ∀ q, A1 q → A0 q)
    (kk : ∀ (v : Option Value) (H1 : Heap) (locs1 : List Loc), post v H1 → H.size ≤ H1.size → (∀ q : Nat, q < H.size → ¬ A1 q → H1[q]? = H[q]?) → va_S A0 H0 H1 locs1 → W p l e R s m args below meth c H1 locs1 (cells + mc) (slots + ms) Q (F0 m (pc + 3) ls (v.toList ++ rest))) : W p l e R s m args below meth c H locs cells slots Q (F0 m pc ls st) := by
  obtain ⟨hx, hb, hml, hown, hts, hK, hr, hlocks, hnm⟩ := C
  obtain ⟨y1, y2, y3, y4, y5⟩ := hY
  subst hst
  exact x_go (va_runV (As := As) (rest := rest) ⟨hx, hb, hml, hown, hts⟩ hM ⟨x_callB (mc := mc) (ms := ms) hts y4 y3 y5 hw hR.1, hts _ y1, hts _ y2⟩ ⟨x_blind, hrecv, fun U hU hW => ⟨rfl, hU, hK.warm hW⟩⟩ rfl hn hsz rfl (lv_room hrm) hd hR.2) hS hA kk
theorem x_S (C : CX p K s m args meth c own b n r nm) {y : MethodName} {b2 : ByteArray} {n2 : Nat} {r2 : Option FieldType} {fr lo np idx : Nat} {As : List Value} (hM : MX l K y b2 n2 r2 fr lo mc ms As H A1 post) (hY : YS y b2 n2 r2 np) (hw : Cond.methodLink own idx y ∈ okW)
    (hR : (fr + 1 ≤ R.frames ∧ 8 + (n2 + 11) + lo ≤ R.locals) ∧ cells + mc ≤ R.cells ∧ slots + ms ≤ R.slots) (hn : As.length = np) (hsz : ls.size = n) (hst : st = As.reverse ++ rest) (hrm : (rest.map fun v => v.category).sum ≤ 8) (hd : decode b pc = .ok (.invokestatic idx, 3)) (hS : va_S A0 H0 H locs) (hA : ∀ q, A1 q → A0 q)
    (kk : ∀ (v : Option Value) (H1 : Heap) (locs1 : List Loc), post v H1 → H.size ≤ H1.size → (∀ q : Nat, q < H.size → ¬ A1 q → H1[q]? = H[q]?) → va_S A0 H0 H1 locs1 → W p l e R s m args below meth c H1 locs1 (cells + mc) (slots + ms) Q (F0 m (pc + 3) ls (v.toList ++ rest))) : W p l e R s m args below meth c H locs cells slots Q (F0 m pc ls st) := by
  obtain ⟨hx, hb, hml, hown, hts, hK, hr, hlocks, hnm⟩ := C
  obtain ⟨y1, y3, y4, y5⟩ := hY
  subst hst
  exact x_go (va_runS (As := As) (rest := rest) ⟨hx, hb, hml, hown, hts⟩ hM ⟨x_callB (mc := mc) (ms := ms) hts y4 y3 y5 hw hR.1, hts _ y1⟩ ⟨x_blind, fun U hU hW => ⟨rfl, hU, hK.warm hW⟩⟩ rfl hn hsz rfl (lv_room hrm) hd hR.2) hS hA kk
theorem x_I (C : CX p K s m args meth c own b n r nm) {y : MethodName} {b2 : ByteArray} {n2 : Nat} {fr lo np idx a : Nat} {As : List Value} (hM : MX l K y b2 n2 none fr lo mc ms (.ref a :: As) H A1 post) (hY : YI y b2 n2 np) (hy1 : y.name = "<init>") (hw : Cond.methodLink own idx y ∈ okW)
    (hR : (fr + 1 ≤ R.frames ∧ 8 + (n2 + 11) + lo ≤ R.locals) ∧ cells + mc ≤ R.cells ∧ slots + ms ≤ R.slots) (hn : As.length = np) (hsz : ls.size = n) (hst : st = As.reverse ++ .ref a :: rest) (hrm : (rest.map fun v => v.category).sum ≤ 8) (hd : decode b pc = .ok (.invokespecial idx, 3)) (hS : va_S A0 H0 H locs) (hA : ∀ q, A1 q → A0 q)
    (kk : ∀ (v : Option Value) (H1 : Heap) (locs1 : List Loc), post v H1 → H.size ≤ H1.size → (∀ q : Nat, q < H.size → ¬ A1 q → H1[q]? = H[q]?) → va_S A0 H0 H1 locs1 → W p l e R s m args below meth c H1 locs1 (cells + mc) (slots + ms) Q (F0 m (pc + 3) ls (v.toList ++ rest))) : W p l e R s m args below meth c H locs cells slots Q (F0 m pc ls st) := by
  obtain ⟨hx, hb, hml, hown, hts, hK, hr, hlocks, hnm⟩ := C
  obtain ⟨y1, y3, y4, y5⟩ := hY
  subst hst
  exact x_go (va_runI (As := As) (rest := rest) ⟨hx, hb, hml, hown, hts⟩ hM ⟨x_callB (mc := mc) (ms := ms) hts y4 y3 y5 hw hR.1, hy1, hts _ y1⟩ ⟨x_blind, fun U hU hW => ⟨rfl, hU, hK.warm hW⟩⟩ rfl hn hsz rfl (lv_room hrm) hd hR.2) hS hA kk
theorem x_callN {y : MethodName} {host : String} {b2 : ByteArray} {n2 : Nat} {r2 : Option FieldType} {fr lo mc ms np idx : Nat} (hts : ∀ w ∈ okW, w.before args s = true) (hK : KT K s) (hcode : Cond.code y b2 n2 r2 ∈ okW) (hini : Cond.initialized y.cls ∈ okW) (hy : y.cls ≠ "java/lang/invoke/MethodHandle" ∧ y.cls ≠ "java/lang/invoke/VarHandle" ∧ (parseMethodDescriptor y.desc).map (fun d => d.parameters.length) = some np) (hw : Cond.methodLinkNest own idx y host ∈ nwl) (hR : fr + 1 ≤ R.frames ∧ 8 + (n2 + 11) + lo ≤ R.locals) : va_CN R s args own idx y host b2 n2 r2 (wsY y b2 n2 r2) { frames := fr, cells := mc, slots := ms, locals := lo } mc ms np :=
  va_cnB np hts (good_ws (fun _ h => h) hcode) rfl rfl rfl (hK.2.1 _ hw) (hts _ hini) hy hR
theorem x_SN (C : CX p K s m args meth c own b n r nm) {y : MethodName} {host : String} {b2 : ByteArray} {n2 : Nat} {r2 : Option FieldType} {fr lo np idx : Nat} {As : List Value} (hM : MX l K y b2 n2 r2 fr lo mc ms As H A1 post) (hY : YS y b2 n2 r2 np) (hw : Cond.methodLinkNest own idx y host ∈ nwl)
    (hR : (fr + 1 ≤ R.frames ∧ 8 + (n2 + 11) + lo ≤ R.locals) ∧ cells + mc ≤ R.cells ∧ slots + ms ≤ R.slots) (hn : As.length = np) (hsz : ls.size = n) (hst : st = As.reverse ++ rest) (hrm : (rest.map fun v => v.category).sum ≤ 8) (hd : decode b pc = .ok (.invokestatic idx, 3)) (hS : va_S A0 H0 H locs) (hA : ∀ q, A1 q → A0 q)
    (kk : ∀ (v : Option Value) (H1 : Heap) (locs1 : List Loc), post v H1 → H.size ≤ H1.size → (∀ q : Nat, q < H.size → ¬ A1 q → H1[q]? = H[q]?) → va_S A0 H0 H1 locs1 → W p l e R s m args below meth c H1 locs1 (cells + mc) (slots + ms) Q (F0 m (pc + 3) ls (v.toList ++ rest))) : W p l e R s m args below meth c H locs cells slots Q (F0 m pc ls st) := by
  obtain ⟨hx, hb, hml, hown, hts, hK, hr, hlocks, hnm⟩ := C
  obtain ⟨y1, y3, y4, y5⟩ := hY
  subst hst
  exact x_go (va_runSN (As := As) (rest := rest) ⟨hx, hb, hml, hown, hts⟩ hM ⟨x_callN (mc := mc) (ms := ms) hts hK y4 y3 y5 hw hR.1, hts _ y1, trivial⟩ ⟨x_blind, fun U hU hW => ⟨rfl, hU, hK.warm hW⟩⟩ rfl hn hsz rfl (lv_room hrm) hd hR.2) hS hA kk
theorem x_IN (C : CX p K s m args meth c own b n r nm) {y : MethodName} {host : String} {b2 : ByteArray} {n2 : Nat} {fr lo np idx a : Nat} {As : List Value} (hM : MX l K y b2 n2 none fr lo mc ms (.ref a :: As) H A1 post) (hY : YI y b2 n2 np) (hy1 : y.name = "<init>") (hw : Cond.methodLinkNest own idx y host ∈ nwl)
    (hR : (fr + 1 ≤ R.frames ∧ 8 + (n2 + 11) + lo ≤ R.locals) ∧ cells + mc ≤ R.cells ∧ slots + ms ≤ R.slots) (hn : As.length = np) (hsz : ls.size = n) (hst : st = As.reverse ++ .ref a :: rest) (hrm : (rest.map fun v => v.category).sum ≤ 8) (hd : decode b pc = .ok (.invokespecial idx, 3)) (hS : va_S A0 H0 H locs) (hA : ∀ q, A1 q → A0 q)
    (kk : ∀ (v : Option Value) (H1 : Heap) (locs1 : List Loc), post v H1 → H.size ≤ H1.size → (∀ q : Nat, q < H.size → ¬ A1 q → H1[q]? = H[q]?) → va_S A0 H0 H1 locs1 → W p l e R s m args below meth c H1 locs1 (cells + mc) (slots + ms) Q (F0 m (pc + 3) ls (v.toList ++ rest))) : W p l e R s m args below meth c H locs cells slots Q (F0 m pc ls st) := by
  obtain ⟨hx, hb, hml, hown, hts, hK, hr, hlocks, hnm⟩ := C
  obtain ⟨y1, y3, y4, y5⟩ := hY
  subst hst
  exact x_go (va_runIN (As := As) (rest := rest) ⟨hx, hb, hml, hown, hts⟩ hM ⟨x_callN (mc := mc) (ms := ms) hts hK y4 y3 y5 hw hR.1, hy1, hts _ y1⟩ ⟨x_blind, fun U hU hW => ⟨rfl, hU, hK.warm hW⟩⟩ rfl hn hsz rfl (lv_room hrm) hd hR.2) hS hA kk
/-- the receiver of a call -/
theorem x_rv (C : CX p K s m args meth c own b n r nm) (hT : TY K G H) {a t ci N : Nat} {Cn : String} {T : u_T} {fs : List FT} (hc : vwCl[ci]? = some (Cn, T, N)) (hG : G a = some t) (hs : rgT[t]? = some (.inl (ci, fs))) : ∃ cell : Cell, H[a]? = some cell ∧ cell.vm.isStatics = false ∧ s.vm.findClass Cn = some cell.cls := by
  obtain ⟨hx, hb, hml, hown, hts, hK, hr, hlocks, hnm⟩ := C
  obtain ⟨cell, h1, h2, h3, -⟩ := hT.at hG hs
  exact ⟨cell, h1, by rw [h3]; rfl, by rw [h2]; exact (hK.1.1 ci _ hc).2.1⟩
end XR
