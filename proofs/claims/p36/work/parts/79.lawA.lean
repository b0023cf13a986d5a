/-! THE CLAIM OUT OF ONE WALK OF THE LAW'S BODY. Your part is whole_start (and what it stands on); all else here is the same for every law, but numbers. -/
def R_law : String := "RingBarsLaw"
def lw_P (b : Addr) (xs : List Int32) (args : Array Value) (s : State) : Prop := args = #[.ref b] ∧ s.IntsAt b xs ∧ xs.length ≤ 3072 ∧ (Jvm.Cond.and given_1 narrow_1).before args s = true
def lw_Q (_ : Array Value) (s : State) (o : Outcome) (t : State) : Prop := o = .returned (some (.int 1)) ∧ Framed s o t [] 60000 8922250
def lw_Z (below : List Frame) (a : Array Value) (s : State) : State → Prop := fun t => ∃ o, t.status = .running ∧ Ended t below o ∧ lw_Q a s o t
/-- the law's own end, with 1 on the stack, nothing written that was there before, its room as the claim has it -/
theorem lw_ret {p : Program} {l : Launch} {e : Env} {s : State} {m : MethodId} {below : List Frame} {meth : Method} {c : Code} {b : Nat} (hx : p.tables.exec = Jvm.exec) (hb : c.code = code) (hr : meth.sig.returnType = ret) (hlocks : meth.locks = false) {pc : Nat} {H : Heap} {ls : Array Slot} (hdg : decode code pc = .ok (.ireturn, 1)) : W p l e room_1 s m #[Value.ref b] below meth c H [] 60000 8922250 (lw_Z below #[Value.ref b] s) (F0 m pc ls [.int 1]) := by
  intro T hT X
  obtain ⟨fs, hret, hrun, hended, hW, hframe⟩ := X.leave (v := some (.int 1)) (hlocks := hlocks) (fun h => by rw [hr] at h; cases h)
  have hmeth' : T.vm.method? m = some meth := X.method'
  refine ⟨T.setFrames fs, ?_, .returned (some (.int 1)), hrun, hended, rfl, ⟨_, rfl⟩, hW, hframe⟩
  jvm_step X.here [X.here.top, hx, hb, hdg, hmeth', hr, ret, narrow_b1]
  (try refine ⟨rfl, ?_⟩); (try refine ⟨rfl, ?_⟩)
  first | (intro acts; rw [hret _ acts rfl rfl rfl]) | rw [hret _ _ rfl rfl rfl]
  exact Steps.refl _
/-- what holds at the law's entry: the machine, the code, the tables' words (any of lw_tbl by 'hts w (by decide +kernel)'), the script of L ints xs at the cell b, what the Statement gives of the start (any of its parts by flat_of_before) -/
def lw_At (p : Program) (s : State) (m : MethodId) (meth : Method) (c : Code) (b L : Nat) (xs : Nat → Int32) : Prop :=
  p.tables.exec = Jvm.exec ∧ c.code = code ∧ meth.sig.returnType = ret ∧ c.maxLocals = 4 ∧ s.vm.findClass R_law = some m.cls ∧ (∀ w ∈ lw_tbl, w.before #[Value.ref b] s = true) ∧ va_X b L xs s s.heap ∧ b < s.heap.size ∧ meth.locks = false ∧ (Jvm.Cond.and given_1 narrow_1).before #[Value.ref b] s = true

theorem AE_new {G : Nat → Option Nat} {e : List Nat} {z0 z1 : Nat} (hG : ∀ q, q < z0 → G q = none) (hz : z0 ≤ z1) : ∀ q, AE G e z1 q → z0 ≤ q := by
  intro q h
  by_cases hq : q < z0
  · rcases h with ⟨t, h1, h2⟩ | h
    · rw [hG q hq] at h1
      cases h1
    · omega
  · omega
/-- what stays over the law's whole walk -/
def LC (p : Program) (K : KE) (s : State) (m : MethodId) (meth : Method) (c : Code) (b0 L : Nat) (xs : Nat → Int32) : Prop := CX p K s m #[Value.ref b0] meth c RL cL_law 4 ret meth.name ∧ va_X b0 L xs s s.heap ∧ b0 < s.heap.size ∧ L ≤ 3072
/-- the scalars that both sides share -/
def RS (K : KE) (H : Heap) (a b : Nat) : Prop := (fI H a (K.1.2 9 3)).toInt = (fI H b (K.1.2 10 18)).toInt ∧ (fI H (fR H a (K.1.2 9 0)) (K.1.2 8 1)).toInt = (fI H b (K.1.2 10 1)).toInt ∧ (fI H (fR H a (K.1.2 9 0)) (K.1.2 8 4)).toInt = (fI H b (K.1.2 10 2)).toInt ∧ (fI H (fR H a (K.1.2 9 0)) (K.1.2 8 5)).toInt = (fI H b (K.1.2 10 3)).toInt ∧ (fI H (fR H a (K.1.2 9 0)) (K.1.2 8 10)).toInt = (fI H b (K.1.2 10 59)).toInt ∧ (fI H (fR H a (K.1.2 9 0)) (K.1.2 8 13)).toInt = (fI H b (K.1.2 10 62)).toInt ∧ (fI H (fR H a (K.1.2 9 0)) (K.1.2 8 16)).toInt = (fI H b (K.1.2 10 65)).toInt
/-- the image, on both sides -/
def KI (K : KE) (G : Nat → Option Nat) (H : Heap) (a b : Nat) : Prop := (fV H a (K.1.2 9 1) = .null ∧ (fI H b (K.1.2 10 70)).toInt = 0) ∨ ∃ q : Nat, fV H a (K.1.2 9 1) = .ref q ∧ G q = some 34 ∧ (fI H b (K.1.2 10 70)).toInt = 1 ∧ (fI H q (K.1.2 8 1)).toInt = (fI H (fR H b (K.1.2 10 73)) ((0 : Int32).toNatClampNeg)).toInt ∧ (fI H q (K.1.2 8 4)).toInt = (fI H (fR H b (K.1.2 10 73)) ((1 : Int32).toNatClampNeg)).toInt ∧ (fI H q (K.1.2 8 5)).toInt = (fI H (fR H b (K.1.2 10 73)) ((2 : Int32).toNatClampNeg)).toInt ∧ (fI H q (K.1.2 8 10)).toInt = (fI H (fR H b (K.1.2 10 73)) ((3 : Int32).toNatClampNeg)).toInt ∧ (fI H q (K.1.2 8 13)).toInt = (fI H (fR H b (K.1.2 10 73)) ((4 : Int32).toNatClampNeg)).toInt ∧ (fI H q (K.1.2 8 16)).toInt = (fI H (fR H b (K.1.2 10 73)) ((5 : Int32).toNatClampNeg)).toInt ∧ RKI K H q (fR H b (K.1.2 10 73)) (fI H q (K.1.2 8 1)).toInt ∧ 0 ≤ (fI H q (K.1.2 8 5)).toInt ∧ (fI H q (K.1.2 8 5)).toInt ≤ 9999
/-- the tapes on both sides -/
def TB (K : KE) (H : Heap) (a b : Nat) : Prop := TBR (fun j => fI H (fR H a (K.1.2 9 2)) j) (fun j => fI H (fR H b (K.1.2 10 17)) j) (fI H b (K.1.2 10 18)).toNatClampNeg
/-- bars and texts on both sides -/
def RELE (K : KE) (H : Heap) (a b : Nat) : Prop := RE K H (fR H a (K.1.2 9 0)) b (fI H b (K.1.2 10 1)).toInt ∧ 0 ≤ (fI H (fR H a (K.1.2 9 0)) (K.1.2 8 5)).toInt ∧ (fI H (fR H a (K.1.2 9 0)) (K.1.2 8 5)).toInt ≤ 9999
/-- what has been taken: one World more once there is an image -/
def BD (K : KE) (H : Heap) (a cells slots : Nat) : Prop := cells ≤ 10434 ∧ slots ≤ 213027 ∧ (fV H a (K.1.2 9 1) = .null → cells ≤ 10000 ∧ slots ≤ 200000)
/-- both objects stand -/
def SX (K : KE) (s : State) (G : Nat → Option Nat) (H : Heap) (locs : List Loc) (a b : Nat) : Prop := TY K G H ∧ (∀ q, q < s.heap.size → G q = none) ∧ G a = some 68 ∧ G b = some 112 ∧ CG (avw K H b) ∧ TU (avw K H b) (svw K H b) ∧ WD (avw K H b) ∧ IM (avw K H b) ∧ RS K H a b ∧ KI K G H a b ∧ TB K H a b ∧ RELE K H a b ∧ va_S (fun q => s.heap.size ≤ q) s.heap H locs
theorem lw_ix {i z c : Int32} {L k : Nat} (e : z = i + c) (hi : 0 ≤ i.toInt ∧ i.toInt + 6 ≤ (L : Int)) (hL : L ≤ 3072) (hc : c.toInt = (k : Int)) (hk : k ≤ 5) : z.toInt = i.toInt + (k : Int) ∧ z.toNatClampNeg = i.toNatClampNeg + k ∧ (0 ≤ z.toInt ∧ z.toInt < (L : Int)) := by
  have t := i_add e (by omega)
  have h1 := i_cl (x := z) (by omega)
  have h2 := i_cl (x := i) (by omega)
  exact ⟨by omega, by omega, by omega, by omega⟩
theorem FX.kept {K : KE} {H H1 : Heap} {a w : Nat} (h : FX K H a w) (ha : H1[a]? = H[a]?) (hw : H1[w]? = H[w]?) : FX K H1 a w := by
  obtain ⟨f0, f1, f2, f3, f4, f5, f6, f7, f8, f9, f10⟩ := h
  exact ⟨f0.trans (fR_kept ha).symm, (fV_kept ha).trans f1, (fI_kept ha).trans f2, (fI_kept hw).trans f3, (fI_kept hw).trans f4, (fI_kept hw).trans f5, (fI_kept hw).trans f6, (fI_kept hw).trans f7, (fI_kept hw).trans f8, (fI_kept hw).trans f9, (fI_kept hw).trans f10⟩