/-! THE CLAIM OUT OF ONE WALK OF THE LAW'S BODY. Your part is whole_start (and what it stands on); all else here is the same for every law, but numbers. -/
def R_law : String := "RingBarsLaw"
def lw_P (b : Addr) (xs : List Int32) (args : Array Value) (s : State) : Prop := args = #[.ref b] ∧ s.IntsAt b xs ∧ xs.length ≤ 6 ∧ (Jvm.Cond.and given_1 narrow_1).before args s = true
def lw_Q (_ : Array Value) (s : State) (o : Outcome) (t : State) : Prop := o = .returned (some (.int 1)) ∧ Framed s o t [] 600000 7302250
def lw_Z (below : List Frame) (a : Array Value) (s : State) : State → Prop := fun t => ∃ o, t.status = .running ∧ Ended t below o ∧ lw_Q a s o t
/-- the law's own end, with 1 on the stack, nothing written that was there before, its room as the claim has it -/
theorem lw_ret {p : Program} {l : Launch} {e : Env} {s : State} {m : MethodId} {below : List Frame} {meth : Method} {c : Code} {b : Nat} (hx : p.tables.exec = Jvm.exec) (hb : c.code = code) (hr : meth.sig.returnType = ret) (hlocks : meth.locks = false) {pc : Nat} {H : Heap} {ls : Array Slot} (hdg : decode code pc = .ok (.ireturn, 1)) : W p l e room_1 s m #[Value.ref b] below meth c H [] 600000 7302250 (lw_Z below #[Value.ref b] s) (F0 m pc ls [.int 1]) := by
  intro T hT X
  obtain ⟨fs, hret, hrun, hended, hW, hframe⟩ := X.leave (v := some (.int 1)) (hlocks := hlocks) (fun h => by rw [hr] at h; cases h)
  have hmeth' : T.vm.method? m = some meth := X.method'
  refine ⟨T.setFrames fs, ?_, .returned (some (.int 1)), hrun, hended, rfl, ⟨_, rfl⟩, hW, hframe⟩
  jvm_step X.here [X.here.top, hx, hb, hdg, hmeth', hr, ret, narrow_b1]
  (try refine ⟨rfl, ?_⟩); (try refine ⟨rfl, ?_⟩)
  first | (intro acts; rw [hret _ acts rfl rfl rfl]) | rw [hret _ _ rfl rfl rfl]
  exact Steps.refl _
/-- what holds at the law's entry: the machine, the code, the tables' words (any of lw_tbl by 'hts w (by decide +kernel)'), the script of L ints xs at the cell b, what the Statement gives of the start (any of its parts by flat_of_before) -/
def lw_At (p : Program) (s : State) (m : MethodId) (meth : Method) (c : Code) (b L : Nat) (xs : Nat → Int32) : Prop :=
  p.tables.exec = Jvm.exec ∧ c.code = code ∧ meth.sig.returnType = ret ∧ c.maxLocals = 4 ∧ s.vm.findClass R_law = some m.cls ∧ (∀ w ∈ lw_tbl, w.before #[Value.ref b] s = true) ∧ va_X b L xs s s.heap ∧ b < s.heap.size ∧ meth.locks = false ∧ (Jvm.Cond.and given_1 narrow_1).before #[Value.ref b] s = true

theorem AE_new {G : Nat → Option Nat} {e : List Nat} {z0 z1 : Nat} (hG : ∀ q, q < z0 → G q = none) (hz : z0 ≤ z1) : ∀ q, AE G e z1 q → z0 ≤ q := by
  intro q h
  by_cases hq : q < z0
  · rcases h with ⟨t, h1, h2⟩ | h
    · rw [hG q hq] at h1
      cases h1
    · omega
  · omega
theorem FM.kept {K : KE} {H H1 : Heap} {b : Nat} (h : FM K H b) (hq : H1[b]? = H[b]?) : FM K H1 b := by
  obtain ⟨f1, f2, f3, f4, f5, f6, f7, f8, f9, f10⟩ := h
  exact ⟨(fI_kept hq).trans f1, (fI_kept hq).trans f2, (fI_kept hq).trans f3, (fI_kept hq).trans f4, (fI_kept hq).trans f5, (fI_kept hq).trans f6, (fI_kept hq).trans f7, (fI_kept hq).trans f8, (fI_kept hq).trans f9, (fI_kept hq).trans f10⟩
theorem FX.kept {K : KE} {H H1 : Heap} {a w : Nat} (h : FX K H a w) (ha : H1[a]? = H[a]?) (hw : H1[w]? = H[w]?) : FX K H1 a w := by
  obtain ⟨f0, f1, f2, f3, f4, f5, f6, f7, f8, f9, f10⟩ := h
  exact ⟨f0.trans (fR_kept ha).symm, (fV_kept ha).trans f1, (fI_kept ha).trans f2, (fI_kept hw).trans f3, (fI_kept hw).trans f4, (fI_kept hw).trans f5, (fI_kept hw).trans f6, (fI_kept hw).trans f7, (fI_kept hw).trans f8, (fI_kept hw).trans f9, (fI_kept hw).trans f10⟩
/-- what stays over the law's whole walk -/
def LC (p : Program) (K : KE) (s : State) (m : MethodId) (meth : Method) (c : Code) (b0 L : Nat) (xs : Nat → Int32) : Prop := CX p K s m #[Value.ref b0] meth c RL cL_law 4 ret meth.name ∧ va_X b0 L xs s s.heap ∧ b0 < s.heap.size
/-- both objects stand, fresh -/
def SX (K : KE) (s : State) (G : Nat → Option Nat) (H : Heap) (locs : List Loc) (a w b : Nat) : Prop := TY K G H ∧ (∀ q, q < s.heap.size → G q = none) ∧ G a = some 68 ∧ G w = some 0 ∧ G b = some 112 ∧ FX K H a w ∧ FM K H b ∧ va_S (fun q => s.heap.size ≤ q) s.heap H locs
set_option maxRecDepth 100000 in
/-- from the head of the loop, out of it -/
theorem lw_out {p : Program} {l : Launch} {e : Env} {s : State} {m : MethodId} {below : List Frame} {meth : Method} {c : Code} {K : KE} {b0 : Nat} {xs : Nat → Int32} {H : Heap} {locs : List Loc} {a b : Nat} {cells slots : Nat} {ls : Array Slot} {L : Nat} {i : Int32} (D : LC p K s m meth c b0 L xs) (hS : va_S (fun q => s.heap.size ≤ q) s.heap H locs) (hl : lv_has ls 4 [(3, .int i), (2, .ref b), (1, .ref a), (0, .ref b0)]) (hi : (Int32.ofNat L - 6) < i) (hc : cells ≤ 600000) (hs : slots ≤ 7302250) : W p l e room_1 s m #[Value.ref b0] below meth c H locs cells slots (lw_Z below #[Value.ref b0] s) (F0 m 18 ls []) := by
  obtain ⟨C, hX, hbl⟩ := D
  obtain ⟨hx, hb, hml, hown, hts, hKT, hr, hlocks, hnm⟩ := id C
  refine lv_iload_n hx hb dL_law_18 rfl (lv_at hl 0 rfl) ?_
  refine lv_aload_n hx hb dL_law_19 rfl (lv_at hl 3 rfl) ?_
  refine va_slen hx hb hX hbl (Nat.not_le.mpr hbl) hS dL_law_20 ?_
  refine lv_bipush (v := 6) hx hb dL_law_21 (by decide) ?_
  refine lv_isub hx hb dL_law_23 ?_
  refine lv_icmp_gt (tgt := 1515) hx hb dL_law_24 (by decide) (fun c1 => ?_) (fun c1 => absurd hi c1)
  refine lv_iconst (v := 1) hx hb dL_law_1515 (by decide) ?_
  refine W.widen hc hs ?_
  exact W.forget (locs := []) (L := locs) (fun q hq => hS.2.2 q hq) (lw_ret hx hb hr hlocks dL_law_1516)
set_option maxRecDepth 100000 in
theorem lw_tail {p : Program} {l : Launch} {e : Env} {s : State} {m : MethodId} {below : List Frame} {meth : Method} {c : Code} {K : KE} {b0 : Nat} {xs : Nat → Int32} {H : Heap} {locs : List Loc} {a b : Nat} {cells slots : Nat} {ls : Array Slot} (D : LC p K s m meth c b0 6 xs) (hS : va_S (fun q => s.heap.size ≤ q) s.heap H locs) (hl : lv_has ls 4 [(3, .int 0), (2, .ref b), (1, .ref a), (0, .ref b0)]) (hc : cells ≤ 600000) (hs : slots ≤ 7302250) : W p l e room_1 s m #[Value.ref b0] below meth c H locs cells slots (lw_Z below #[Value.ref b0] s) (F0 m 1509 ls []) := by
  obtain ⟨C, hX, hbl⟩ := id D
  obtain ⟨hx, hb, hml, hown, hts, hKT, hr, hlocks, hnm⟩ := id C
  refine lv_iinc (v := 6) (lv' := [(3, .int 6), (2, .ref b), (1, .ref a), (0, .ref b0)]) hx hb dL_law_1509 hl (k := 0) rfl (by decide) (by decide) rfl (fun ls2 hl2 => ?_)
  refine lv_goto (tgt := 18) hx hb dL_law_1512 (by decide) ?_
  exact lw_out D hS hl2 (by decide) hc hs