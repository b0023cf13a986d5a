/-! ===== stable words ===== -/
def okW : List Cond := lw_tbl.filter goodWord
theorem ok_of {w : Cond} (h : w ∈ lw_tbl) (g : goodWord w = true) : w ∈ okW := List.mem_filter.mpr ⟨h, g⟩
theorem ok_in {w : Cond} (h : w ∈ okW) : w ∈ lw_tbl := (List.mem_filter.mp h).1
theorem ok_good {w : Cond} (h : w ∈ okW) : goodWord w = true := (List.mem_filter.mp h).2
abbrev wsY (y : MethodName) (b : ByteArray) (n : Nat) (r : Option FieldType) : List Cond := .code y b n r :: okW
theorem good_ws {big : List Cond} (hbig : ∀ w ∈ okW, w ∈ big) {y : MethodName} {b : ByteArray} {n : Nat} {r : Option FieldType} (h : Cond.code y b n r ∈ okW) : GoodIn big (wsY y b n r) := by
  intro w hw
  have h1 : w ∈ okW := by
    rcases List.mem_cons.mp hw with rfl | h1
    · exact h
    · exact h1
  exact ⟨hbig w h1, good_of_word (ok_good h1)⟩
/-! ===== the tables' part of a state: class numbers and slots, array classes ===== -/
/-- (class ids, slots), array classes (0 int[], 1 Bar[], 2 Text[], 3 int[][]), addresses of constants (0 the words' String, 1 its bytes), the state at the start -/
abbrev KE : Type := va_G × (Nat → ClassId) × (Nat → Nat) × State
def wdT : String := "bend  mass  sway  drift shave arc   wax   when  or    and   not   at    size  mid   end   thick grain heavy heat  wet   low   high  top   passes"
def wdB : List Int32 := [98, 101, 110, 100, 32, 32, 109, 97, 115, 115, 32, 32, 115, 119, 97, 121, 32, 32, 100, 114, 105, 102, 116, 32, 115, 104, 97, 118, 101, 32, 97, 114, 99, 32, 32, 32, 119, 97, 120, 32, 32, 32, 119, 104, 101, 110, 32, 32, 111, 114, 32, 32, 32, 32, 97, 110, 100, 32, 32, 32, 110, 111, 116, 32, 32, 32, 97, 116, 32, 32, 32, 32, 115, 105, 122, 101, 32, 32, 109, 105, 100, 32, 32, 32, 101, 110, 100, 32, 32, 32, 116, 104, 105, 99, 107, 32, 103, 114, 97, 105, 110, 32, 104, 101, 97, 118, 121, 32, 104, 101, 97, 116, 32, 32, 119, 101, 116, 32, 32, 32, 108, 111, 119, 32, 32, 32, 104, 105, 103, 104, 32, 32, 116, 111, 112, 32, 32, 32, 112, 97, 115, 115, 101, 115]
def tyL (CA : Nat → ClassId) : List (ClassId × FieldType) := [(CA 0, .int), (CA 1, .object "RingBars$Bar"), (CA 2, .object "RingBars$Text"), (CA 3, .array .int)]
def ao_ok (U : State) : Prop := (Cond.arrayOver (.array .int)).before #[] U = true
theorem ao_moved {u U : State} (hW : u.vm.Alike U.vm) (h : ao_ok u) : ao_ok U := by
  have h1 := Cond.arrayOver_setVmC (args := #[]) (s := u) hW (.array .int)
  unfold ao_ok at h ⊢
  rw [h] at h1
  exact h1
def SV (K : KE) (U : State) : Prop := K.2.2.2.vm.Alike U.vm ∧ vk_R "RingBars$Reader" 73 wdT (K.2.2.1 0) U
def KT (K : KE) (U : State) : Prop := va_K K.1 vwCl (tyL K.2.1) U ∧ (∀ w ∈ nwl, va_Nw w U) ∧ va_AO "RingBars$Bar" U ∧ va_AO "RingBars$Text" U ∧ ao_ok U ∧ SV K U
theorem KT.warm {K : KE} {s U : State} (hW : s.WarmedH U.vm) (h : KT K s) : KT K U := by
  obtain ⟨h1, h2, h3, h4, h5, h6, h7⟩ := h
  refine ⟨va_K.moved hW.alike h1, fun w hw => ?_, va_AO.moved hW.alike h3, va_AO.moved hW.alike h4, ao_moved hW.alike h5, h6.trans hW.alike, vk_R.warm hW h7⟩
  obtain ⟨a, i, x, hh, rfl⟩ := nwl_form w hw
  exact va_Nw.warmM hW (h2 _ hw)
theorem KT.same {K : KE} {u U : State} (hv : u.vm = U.vm) (h : KT K u) : KT K U := by
  obtain ⟨h1, h2, h3, h4, h5, h6, h7⟩ := h
  have hal : u.vm.Alike U.vm := by rw [hv]; exact Vm.Alike.refl _
  refine ⟨va_K.moved hal h1, fun w hw => ?_, va_AO.moved hal h3, va_AO.moved hal h4, ao_moved hal h5, h6.trans hal, vk_R.same hv.symm h7⟩
  obtain ⟨a, i, x, hh, rfl⟩ := nwl_form w hw
  exact va_Nw.same rfl hv (h2 _ hw)
/-! ===== reading the heap ===== -/
def fV (H : Heap) (a i : Nat) : Value := match H[a]? with
  | some c => (c.slots[i]?).getD .null
  | none => .null
def fI (H : Heap) (a i : Nat) : Int32 := match fV H a i with
  | .int x => x
  | _ => 0
def fR (H : Heap) (a i : Nat) : Nat := match fV H a i with
  | .ref q => q
  | _ => 0
theorem fV_at {H : Heap} {a i : Nat} {cell : Cell} {v : Value} (h : H[a]? = some cell) (hv : cell.slots[i]? = some v) : fV H a i = v := by simp [fV, h, hv]
theorem fI_at {H : Heap} {a i : Nat} {cell : Cell} {x : Int32} (h : H[a]? = some cell) (hv : cell.slots[i]? = some (.int x)) : fI H a i = x := by simp [fI, fV_at h hv]
theorem fR_at {H : Heap} {a i : Nat} {cell : Cell} {q : Nat} (h : H[a]? = some cell) (hv : cell.slots[i]? = some (.ref q)) : fR H a i = q := by simp [fR, fV_at h hv]
theorem fV_kept {H H1 : Heap} {a i : Nat} (h : H1[a]? = H[a]?) : fV H1 a i = fV H a i := by simp [fV, h]
theorem fI_kept {H H1 : Heap} {a i : Nat} (h : H1[a]? = H[a]?) : fI H1 a i = fI H a i := by simp [fI, fV_kept h]
theorem fR_kept {H H1 : Heap} {a i : Nat} (h : H1[a]? = H[a]?) : fR H1 a i = fR H a i := by simp [fR, fV_kept h]
/-! ===== regions: every typed cell fits its region's shape ===== -/
/-- (0, lo, hi): an int; (2, c, _): a cell of region c; else: a cell of region c or null -/
abbrev FT : Type := Nat × Int × Int
/-- inl: an object of class ci; inr: an array (array class ti, length, places) -/
abbrev SH : Type := (Nat × List FT) ⊕ (Nat × Nat × FT)
def OkV (G : Nat → Option Nat) (f : FT) (v : Value) : Prop :=
  if f.1 = 0 then ∃ x : Int32, v = .int x ∧ f.2.1 ≤ x.toInt ∧ x.toInt ≤ f.2.2
  else if f.1 = 2 then ∃ q : Nat, v = .ref q ∧ G q = some f.2.1.toNat
  else v = .null ∨ ∃ q : Nat, v = .ref q ∧ G q = some f.2.1.toNat
def CellOk (K : KE) (G : Nat → Option Nat) (H : Heap) (a : Nat) (σ : SH) : Prop := match σ with
  | .inl o => ∃ cell : Cell, H[a]? = some cell ∧ cell.cls = K.1.1 o.1 ∧ cell.vm = .none ∧ ∀ (k : Nat) (f : FT), o.2[k]? = some f → ∃ v : Value, cell.slots[K.1.2 o.1 k]? = some v ∧ OkV G f v
  | .inr r => ∃ cell : Cell, H[a]? = some cell ∧ cell.cls = K.2.1 r.1 ∧ cell.vm = .none ∧ cell.slots.size = r.2.1 ∧ ∀ j : Nat, j < r.2.1 → ∃ v : Value, cell.slots[j]? = some v ∧ OkV G r.2.2 v
/-- below it lies what was there at the start -/
abbrev n0K (K : KE) : Nat := K.2.2.2.heap.size
/-- the words' String, and what its charAt reads -/
def SO (K : KE) (H : Heap) : Prop := va_O "java/lang/String" (K.2.2.1 0) (fun q => n0K K ≤ q) K.2.2.2 H ∧ va_OF "java/lang/String" "coder" "B" (.int 0) (K.2.2.1 0) (fun q => n0K K ≤ q) K.2.2.2 H ∧ va_OF "java/lang/String" "value" "[B" (.ref (K.2.2.1 1)) (K.2.2.1 0) (fun q => n0K K ≤ q) K.2.2.2 H ∧ va_T .byte (K.2.2.1 1) 144 (fun j => .int (wdB.getD j 0)) (fun q => n0K K ≤ q) K.2.2.2 H ∧ va_Z "java/lang/String" "COMPACT_STRINGS" "Z" (.int 1) (fun q => n0K K ≤ q) K.2.2.2 H ∧ ∃ z : Value, (z = .null ∨ ∃ q : Nat, z = .ref q) ∧ va_Z "jdk/internal/util/Preconditions" "SIOOBE_FORMATTER" "Ljava/util/function/BiFunction;" z (fun q => n0K K ≤ q) K.2.2.2 H
theorem SO.kept {K : KE} {H H1 : Heap} (h : SO K H) (ho : ∀ q : Nat, q < n0K K → H1[q]? = H[q]?) : SO K H1 := by
  have hq : ∀ a : Nat, a < H.size → ¬ (fun q => n0K K ≤ q) a → H1[a]? = H[a]? := fun a _ ha => ho a (Nat.not_le.mp ha)
  obtain ⟨h1, h2, h3, h4, h5, z, hz, h6⟩ := h
  exact ⟨h1.kept hq, h2.kept hq, h3.kept hq, h4.kept hq, h5.kept hq, z, hz, h6.kept hq⟩
def TY (K : KE) (G : Nat → Option Nat) (H : Heap) : Prop := (∀ (a t : Nat), G a = some t → ∃ σ : SH, rgT[t]? = some σ ∧ CellOk K G H a σ) ∧ (∀ a t : Nat, G a = some t → n0K K ≤ a) ∧ n0K K ≤ H.size ∧ SO K H
theorem CellOk.kept {K : KE} {G : Nat → Option Nat} {H H1 : Heap} {a : Nat} {σ : SH} (h : CellOk K G H a σ) (hq : H1[a]? = H[a]?) : CellOk K G H1 a σ := by
  cases σ with
  | inl o => obtain ⟨c, h1, h2⟩ := h; exact ⟨c, hq.trans h1, h2⟩
  | inr r => obtain ⟨c, h1, h2⟩ := h; exact ⟨c, hq.trans h1, h2⟩
theorem CellOk.lt {K : KE} {G : Nat → Option Nat} {H : Heap} {a : Nat} {σ : SH} (h : CellOk K G H a σ) : a < H.size := by
  cases σ with
  | inl o => obtain ⟨c, h1, h2⟩ := h; exact (Array.getElem?_eq_some_iff.mp h1).1
  | inr r => obtain ⟨c, h1, h2⟩ := h; exact (Array.getElem?_eq_some_iff.mp h1).1
theorem TY.lt {K : KE} {G : Nat → Option Nat} {H : Heap} (h : TY K G H) {a t : Nat} (ha : G a = some t) : a < H.size := by
  obtain ⟨σ, -, h2⟩ := h.1 a t ha
  exact h2.lt
theorem TY.at {K : KE} {G : Nat → Option Nat} {H : Heap} (h : TY K G H) {a t : Nat} {σ : SH} (ha : G a = some t) (hs : rgT[t]? = some σ) : CellOk K G H a σ := by
  obtain ⟨σ', h1, h2⟩ := h.1 a t ha
  cases h1.symm.trans hs
  exact h2
theorem OkV.mono {G G1 : Nat → Option Nat} (hG : ∀ q t, G q = some t → G1 q = some t) {f : FT} {v : Value} (h : OkV G f v) : OkV G1 f v := by
  unfold OkV at h ⊢
  split at h
  · rename_i h0; rw [if_pos h0]; exact h
  · rename_i h0; rw [if_neg h0]
    split at h
    · rename_i h2; rw [if_pos h2]; obtain ⟨q, e, g⟩ := h; exact ⟨q, e, hG _ _ g⟩
    · rename_i h2; rw [if_neg h2]
      rcases h with h | ⟨q, e, g⟩
      · exact Or.inl h
      · exact Or.inr ⟨q, e, hG _ _ g⟩
theorem CellOk.mono {K : KE} {G G1 : Nat → Option Nat} (hG : ∀ q t, G q = some t → G1 q = some t) {H : Heap} {a : Nat} {σ : SH} (h : CellOk K G H a σ) : CellOk K G1 H a σ := by
  cases σ with
  | inl o => obtain ⟨c, h1, h2, h3, h4⟩ := h; exact ⟨c, h1, h2, h3, fun k f hk => by obtain ⟨v, e1, e2⟩ := h4 k f hk; exact ⟨v, e1, e2.mono hG⟩⟩
  | inr r => obtain ⟨c, h1, h2, h3, h5, h4⟩ := h; exact ⟨c, h1, h2, h3, h5, fun k hk => by obtain ⟨v, e1, e2⟩ := h4 k hk; exact ⟨v, e1, e2.mono hG⟩⟩
theorem okv_int {G : Nat → Option Nat} {lo hi : Int} {v : Value} (h : OkV G (0, lo, hi) v) : ∃ x : Int32, v = .int x ∧ lo ≤ x.toInt ∧ x.toInt ≤ hi := h
theorem okv_ref {G : Nat → Option Nat} {c b : Int} {v : Value} (h : OkV G (2, c, b) v) : ∃ q : Nat, v = .ref q ∧ G q = some c.toNat := h
theorem okv_nul {G : Nat → Option Nat} {c b : Int} {v : Value} (h : OkV G (3, c, b) v) : v = .null ∨ ∃ q : Nat, v = .ref q ∧ G q = some c.toNat := h
/-- an int field: what is read, and its range -/
theorem TY.fint {K : KE} {G : Nat → Option Nat} {H : Heap} (h : TY K G H) {a t ci k : Nat} {fs : List FT} {lo hi : Int} (ha : G a = some t) (hs : rgT[t]? = some (.inl (ci, fs))) (hf : fs[k]? = some (0, lo, hi)) :
    ∃ cell : Cell, H[a]? = some cell ∧ cell.vm = .none ∧ cell.cls = K.1.1 ci ∧ cell.slots[K.1.2 ci k]? = some (.int (fI H a (K.1.2 ci k))) ∧ lo ≤ (fI H a (K.1.2 ci k)).toInt ∧ (fI H a (K.1.2 ci k)).toInt ≤ hi := by
  obtain ⟨cell, h1, h2, h3, h4⟩ := h.at ha hs
  obtain ⟨v, e1, e2⟩ := h4 k _ hf
  obtain ⟨x, rfl, e3, e4⟩ := okv_int e2
  rw [fI_at h1 e1]
  exact ⟨cell, h1, h3, h2, e1, e3, e4⟩
theorem TY.fref {K : KE} {G : Nat → Option Nat} {H : Heap} (h : TY K G H) {a t ci k : Nat} {fs : List FT} {c b : Int} (ha : G a = some t) (hs : rgT[t]? = some (.inl (ci, fs))) (hf : fs[k]? = some (2, c, b)) :
    ∃ cell : Cell, H[a]? = some cell ∧ cell.vm = .none ∧ cell.cls = K.1.1 ci ∧ cell.slots[K.1.2 ci k]? = some (.ref (fR H a (K.1.2 ci k))) ∧ G (fR H a (K.1.2 ci k)) = some c.toNat := by
  obtain ⟨cell, h1, h2, h3, h4⟩ := h.at ha hs
  obtain ⟨v, e1, e2⟩ := h4 k _ hf
  obtain ⟨x, rfl, e3⟩ := okv_ref e2
  rw [fR_at h1 e1]
  exact ⟨cell, h1, h3, h2, e1, e3⟩
theorem TY.fnul {K : KE} {G : Nat → Option Nat} {H : Heap} (h : TY K G H) {a t ci k : Nat} {fs : List FT} {c b : Int} (ha : G a = some t) (hs : rgT[t]? = some (.inl (ci, fs))) (hf : fs[k]? = some (3, c, b)) :
    ∃ cell : Cell, H[a]? = some cell ∧ cell.vm = .none ∧ cell.cls = K.1.1 ci ∧ cell.slots[K.1.2 ci k]? = some (fV H a (K.1.2 ci k)) ∧ (fV H a (K.1.2 ci k) = .null ∨ (fV H a (K.1.2 ci k) = .ref (fR H a (K.1.2 ci k)) ∧ G (fR H a (K.1.2 ci k)) = some c.toNat)) := by
  obtain ⟨cell, h1, h2, h3, h4⟩ := h.at ha hs
  obtain ⟨v, e1, e2⟩ := h4 k _ hf
  rw [fV_at h1 e1]
  refine ⟨cell, h1, h3, h2, e1, ?_⟩
  rcases okv_nul e2 with rfl | ⟨q, rfl, e3⟩
  · exact Or.inl rfl
  · rw [fR_at h1 e1]
    exact Or.inr ⟨rfl, e3⟩
theorem TY.aint {K : KE} {G : Nat → Option Nat} {H : Heap} (h : TY K G H) {a t ti n : Nat} {lo hi : Int} (ha : G a = some t) (hs : rgT[t]? = some (.inr (ti, n, (0, lo, hi)))) {j : Nat} (hj : j < n) :
    ∃ cell : Cell, H[a]? = some cell ∧ cell.vm = .none ∧ cell.cls = K.2.1 ti ∧ cell.slots.size = n ∧ cell.slots[j]? = some (.int (fI H a j)) ∧ lo ≤ (fI H a j).toInt ∧ (fI H a j).toInt ≤ hi := by
  obtain ⟨cell, h1, h2, h3, h5, h4⟩ := h.at ha hs
  obtain ⟨v, e1, e2⟩ := h4 j hj
  obtain ⟨x, rfl, e3, e4⟩ := okv_int e2
  rw [fI_at h1 e1]
  exact ⟨cell, h1, h3, h2, h5, e1, e3, e4⟩
theorem TY.aref {K : KE} {G : Nat → Option Nat} {H : Heap} (h : TY K G H) {a t ti n : Nat} {c b : Int} (ha : G a = some t) (hs : rgT[t]? = some (.inr (ti, n, (2, c, b)))) {j : Nat} (hj : j < n) :
    ∃ cell : Cell, H[a]? = some cell ∧ cell.vm = .none ∧ cell.cls = K.2.1 ti ∧ cell.slots.size = n ∧ cell.slots[j]? = some (.ref (fR H a j)) ∧ G (fR H a j) = some c.toNat := by
  obtain ⟨cell, h1, h2, h3, h5, h4⟩ := h.at ha hs
  obtain ⟨v, e1, e2⟩ := h4 j hj
  obtain ⟨x, rfl, e3⟩ := okv_ref e2
  rw [fR_at h1 e1]
  exact ⟨cell, h1, h3, h2, h5, e1, e3⟩
theorem TY.alen {K : KE} {G : Nat → Option Nat} {H : Heap} (h : TY K G H) {a t ti n : Nat} {f : FT} (ha : G a = some t) (hs : rgT[t]? = some (.inr (ti, n, f))) :
    ∃ cell : Cell, H[a]? = some cell ∧ cell.vm = .none ∧ cell.cls = K.2.1 ti ∧ cell.slots.size = n := by
  obtain ⟨cell, h1, h2, h3, h5, -⟩ := h.at ha hs
  exact ⟨cell, h1, h3, h2, h5⟩
theorem hp_le {H H1 : Heap} {a : Nat} {x : Cell} (e1 : H1[a]? = some x) (oq : ∀ q : Nat, q ≠ a → H1[q]? = H[q]?) : H.size ≤ H1.size := by
  rcases Nat.lt_or_ge H1.size H.size with hl | hl
  · have ha : a < H1.size := (Array.getElem?_eq_some_iff.mp e1).1
    have h1 := oq H1.size (by omega)
    rw [Array.getElem?_eq_none (Nat.le_refl _)] at h1
    rw [Array.getElem?_eq_getElem hl] at h1
    cases h1
  · exact hl
/-- one cell's slot is written: the typing stays if the new value fits -/
theorem TY.putF {K : KE} {G : Nat → Option Nat} {H H1 : Heap} (h : TY K G H) {a t ci k : Nat} {fs : List FT} {f : FT} {cell : Cell} {v : Value} (ha : G a = some t) (hs : rgT[t]? = some (.inl (ci, fs))) (hap : ∀ x y, x < fs.length → y < fs.length → x ≠ y → K.1.2 ci x ≠ K.1.2 ci y) (hf : fs[k]? = some f) (hv : OkV G f v)
    (hc : H[a]? = some cell) (e1 : H1[a]? = some (cell.setSlot (K.1.2 ci k) v)) (oq : ∀ q : Nat, q ≠ a → H1[q]? = H[q]?) : TY K G H1 := by
  refine ⟨fun b t' hb => ?_, h.2.1, Nat.le_trans h.2.2.1 (hp_le e1 oq), h.2.2.2.kept (fun q hq => oq q (Nat.ne_of_lt (Nat.lt_of_lt_of_le hq (h.2.1 a t ha))))⟩
  by_cases hba : b = a
  · subst hba
    cases ha.symm.trans hb
    refine ⟨_, hs, ?_⟩
    obtain ⟨c, h1, h2, h3, h4⟩ := h.at ha hs
    cases hc.symm.trans h1
    refine ⟨_, e1, h2, h3, fun j g hj => ?_⟩
    have hjl : j < fs.length := (List.getElem?_eq_some_iff.mp hj).1
    have hkl : k < fs.length := (List.getElem?_eq_some_iff.mp hf).1
    by_cases hjk : j = k
    · subst hjk
      cases hf.symm.trans hj
      obtain ⟨v0, q1, -⟩ := h4 j _ hj
      exact ⟨v, Cell.slots_setSlot_self _ (k2_hasslot q1), hv⟩
    · rw [slot_ne _ _ (hap k j hkl hjl (Ne.symm hjk))]
      exact h4 j g hj
  · obtain ⟨σ, h1, h2⟩ := h.1 b t' hb
    exact ⟨σ, h1, h2.kept (oq b hba)⟩
theorem TY.putA {K : KE} {G : Nat → Option Nat} {H H1 : Heap} (h : TY K G H) {a t ti n j : Nat} {f : FT} {cell : Cell} {v : Value} (ha : G a = some t) (hs : rgT[t]? = some (.inr (ti, n, f))) (hj : j < n) (hv : OkV G f v)
    (hc : H[a]? = some cell) (e1 : H1[a]? = some (cell.setSlot j v)) (oq : ∀ q : Nat, q ≠ a → H1[q]? = H[q]?) : TY K G H1 := by
  refine ⟨fun b t' hb => ?_, h.2.1, Nat.le_trans h.2.2.1 (hp_le e1 oq), h.2.2.2.kept (fun q hq => oq q (Nat.ne_of_lt (Nat.lt_of_lt_of_le hq (h.2.1 a t ha))))⟩
  by_cases hba : b = a
  · subst hba
    cases ha.symm.trans hb
    refine ⟨_, hs, ?_⟩
    obtain ⟨c, h1, h2, h3, h5, h4⟩ := h.at ha hs
    cases hc.symm.trans h1
    refine ⟨_, e1, h2, h3, by rw [k2_slotsz]; exact h5, fun i hi => ?_⟩
    by_cases hij : i = j
    · subst hij
      obtain ⟨v0, q1, -⟩ := h4 i hi
      exact ⟨v, Cell.slots_setSlot_self _ (k2_hasslot q1), hv⟩
    · rw [slot_ne _ _ (Ne.symm hij)]
      exact h4 i hi
  · obtain ⟨σ, h1, h2⟩ := h.1 b t' hb
    exact ⟨σ, h1, h2.kept (oq b hba)⟩
theorem fV_setne {H H1 : Heap} {a i j : Nat} {cell : Cell} {v : Value} (hc : H[a]? = some cell) (e1 : H1[a]? = some (cell.setSlot i v)) (hij : j ≠ i) : fV H1 a j = fV H a j := by
  simp only [fV, e1, hc]
  rw [slot_ne _ _ (Ne.symm hij)]
/-- what one write leaves: all but place i of cell a is as it was, there it is v -/
def Wr (H H1 : Heap) (a i : Nat) (v : Value) : Prop := H1.size = H.size ∧ (∀ q : Nat, q ≠ a → H1[q]? = H[q]?) ∧ fV H1 a i = v ∧ ∀ j : Nat, j ≠ i → fV H1 a j = fV H a j
theorem Wr.off {H H1 : Heap} {a i : Nat} {v : Value} (h : Wr H H1 a i v) {q : Nat} (hq : q ≠ a) : H1[q]? = H[q]? := h.2.1 q hq
theorem Wr.I {H H1 : Heap} {a i : Nat} {x : Int32} (h : Wr H H1 a i (.int x)) : fI H1 a i = x := by simp [fI, h.2.2.1]
theorem Wr.R {H H1 : Heap} {a i : Nat} {x : Nat} (h : Wr H H1 a i (.ref x)) : fR H1 a i = x := by simp [fR, h.2.2.1]
theorem Wr.neI {H H1 : Heap} {a i : Nat} {v : Value} (h : Wr H H1 a i v) {q j : Nat} (hq : q ≠ a ∨ j ≠ i) : fI H1 q j = fI H q j := by
  by_cases e : q = a
  · subst e
    simp only [fI, h.2.2.2 j (hq.resolve_left (fun z => z rfl))]
  · exact fI_kept (h.2.1 q e)
theorem Wr.neV {H H1 : Heap} {a i : Nat} {v : Value} (h : Wr H H1 a i v) {q j : Nat} (hq : q ≠ a ∨ j ≠ i) : fV H1 q j = fV H q j := by
  by_cases e : q = a
  · subst e
    exact h.2.2.2 j (hq.resolve_left (fun z => z rfl))
  · exact fV_kept (h.2.1 q e)
theorem Wr.neR {H H1 : Heap} {a i : Nat} {v : Value} (h : Wr H H1 a i v) {q j : Nat} (hq : q ≠ a ∨ j ≠ i) : fR H1 q j = fR H q j := by
  simp only [fR, h.neV hq]
theorem G_ne {G : Nat → Option Nat} {a b t u : Nat} (ha : G a = some t) (hb : G b = some u) (h : t ≠ u) : a ≠ b := by
  intro e
  subst e
  exact h (Option.some.inj (ha.symm.trans hb))
