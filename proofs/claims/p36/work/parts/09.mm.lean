/-! ===== new int[N][M], straight off the model's own words: a loop that keeps 'so many rows stand' ===== -/
section MMW
variable {E : CtlPost} {e : Env} {d : Bool} {acts : List Action} {U : State}
theorem mm_new {cA comp : ClassId} {kA : Class} {ty : FieldType} {N : Nat} {iv : Value} (hk : U.vm.classes[cA]? = some kA) (hkind : kA.kind = .array comp ty) (hl : N ≤ e.platform.arrayLengthLimit) (hb : N * componentBytes ty ≤ e.platform.maxHeapBytes) (hf : fits ty iv = true) (h1 : U.heap.size < e.platform.maxCells) (h2 : U.slotsUsed + N ≤ e.platform.maxSlots) {Qa : Addr → Pre}
    (hq : ∀ acts', Qa U.heap.size d acts' (U.pushCell { cls := cA, slots := Array.replicate N iv, vm := .none })) : wp (Jvm.newArray cA N iv) Qa E e d acts U := by
  have g1 : ¬ N > e.platform.arrayLengthLimit := by omega
  have g2 : ¬ N * componentBytes ty > e.platform.maxHeapBytes := by omega
  have hfs : ∀ i v, (Array.replicate N iv)[i]? = some v → U.fitsSlot cA .none i v = true := by
    intro i v hv
    rw [Array.getElem?_replicate] at hv
    by_cases hi : i < N
    · rw [if_pos hi] at hv
      cases hv
      simp [State.fitsSlot, State.slotType?, hk, hkind, hf]
    · rw [if_neg hi] at hv
      cases hv
  simp only [Jvm.newArray, Jvm.arrayFits, wp_bind', W.ask, W.ite, g1, if_false, wp_pure', W.theClass, hk, hkind, g2, W.alloc, W.stop, Option.some.injEq, exists_eq_left', Array.size_replicate]
  rw [if_neg (by omega)]
  exact ⟨h1, h2, hfs, hq _⟩
end MMW
/-- i rows stand, behind the outer array at h -/
def mmR (h : Nat) (cA cI : ClassId) (N M i : Nat) (H0 H : Heap) : Prop := H.size = h + 1 + i ∧ (∀ q : Nat, q < h → H[q]? = H0[q]?) ∧ (∃ oc : Cell, H[h]? = some oc ∧ oc.cls = cA ∧ oc.vm = .none ∧ oc.slots.size = N ∧ ∀ j : Nat, j < i → oc.slots[j]? = some (.ref (h + 1 + j))) ∧ ∀ j : Nat, j < i → H[h + 1 + j]? = some { cls := cI, slots := Array.replicate M (.int 0), vm := .none }
/-- the states that the loop runs through -/
def mmF (cA cI : ClassId) (N M : Nat) (S0 : State) : Nat → State
  | 0 => S0.pushCell { cls := cA, slots := Array.replicate N .null, vm := .none }
  | i + 1 => ((mmF cA cI N M S0 i).pushCell { cls := cI, slots := Array.replicate M (.int 0), vm := .none }).setCell S0.heap.size ((((mmF cA cI N M S0 i).heap[S0.heap.size]?).getD { cls := cI, slots := #[], vm := .none }).setSlot i (.ref (S0.heap.size + 1 + i)))
section MMS
variable {p : Program} {l : Launch} {e : Env} {R : Room} {s : State} {m : MethodId} {args : Array Value} {below : List Frame} {meth : Method} {c : Code} {T : State} {locs : List Loc} {cells slots : Nat}
theorem mm_step (X : Stand p l e R s m args below meth c T locs cells slots) (hexec : p.tables.exec = Jvm.exec) {own : String} {index : Nat} {cA cI : ClassId} {kA kI : Class} {c2 : ClassId} (hown : s.vm.findClass own = some m.cls) (hclink : (Cond.classLink own index ("[" ++ (FieldType.array .int).toString)).before args s = true)
    (hfA : s.vm.findClass ("[" ++ (FieldType.array .int).toString) = some cA) (hkA : s.vm.classes[cA]? = some kA) (hkindA : kA.kind = .array cI (.array .int)) (hkI : s.vm.classes[cI]? = some kI) (hkindI : kI.kind = .array c2 .int)
    {g : JFrame} (hg : g.method = m) (hdg : decode c.code g.pc = .ok (.multianewarray index 2, 4)) {n k : Int32} {N M : Nat} {rest : List Value} (hstack : g.stack = .int k :: .int n :: rest) (hn : ¬ n < 0) (hk : ¬ k < 0) (hN : n.toNatClampNeg = N) (hM : k.toNatClampNeg = M) (hN2 : N ≤ 10000) (hM2 : M ≤ 10000)
    (hcells : cells + (1 + N) ≤ R.cells) (hslots : slots + (N + N * M) ≤ R.slots) :
    ∃ T' : State, mmR T.heap.size cA cI N M N T.heap T'.heap ∧ Stand p l e R s m args below meth c T' locs (cells + 1 + N) (slots + N + N * M) ∧
      ∀ target, Steps p.tables e below (T'.setTop { g with pc := g.pc + 4, stack := .ref T.heap.size :: rest }) target → Steps p.tables e below (T.setTop g) target := by
  subst hg
  have hpl : e.platform.magicAccessors = ({} : Platform).magicAccessors := by rw [X.admits.platform]
  obtain ⟨c0, hfc0, hcl⟩ := Cond.classLink_spec hown hclink e.platform hpl
  cases hfA.symm.trans hfc0
  obtain ⟨hg₁, hwarm₁, -⟩ := State.classEntry (e := e) X.warmed hcl
  generalize T.vm.noted g.method.cls index (.cls cA) = vm₁ at hg₁ hwarm₁
  have hal : s.vm.Alike vm₁ := hwarm₁.alike
  obtain ⟨kA₁, hkA₁, heA⟩ := hal.2.2 _ _ hkA
  obtain ⟨kI₁, hkI₁, heI⟩ := hal.2.2 _ _ hkI
  have hkindA₁ : kA₁.kind = .array cI (.array .int) := by rw [heA]; exact hkindA
  have hkindI₁ : kI₁.kind = .array c2 .int := by rw [heI]; exact hkindI
  have X₁ := X.noted hwarm₁
  obtain ⟨hr1, hr2⟩ := X.roomAbove hcells hslots
  have hlim := Launch.admits_arrayLengthLimit X.admits
  have hmax := Launch.admits_maxHeapBytes X.admits
  -- what a state with i rows is, behind the top frame f
  let Inv : JFrame → Nat → State → Prop := fun f i U => ∃ (T' : State) (L : List Loc), U = T'.setTop f ∧ mmR T.heap.size cA cI N M i T.heap T'.heap ∧ T'.vm = vm₁ ∧ T'.slotsUsed = T.slotsUsed + N + i * M ∧ (∀ q ∈ L, q.base = T.heap.size) ∧ Stand p l e R s g.method args below meth c T' (locs ++ L) (cells + 1 + i) (slots + N + i * M)
  have inv0 : ∀ f : JFrame, Inv f 0 (((T.setVm vm₁).setTop f).pushCell { cls := cA, slots := Array.replicate N .null, vm := .none }) := by
    intro f
    refine ⟨(T.setVm vm₁).pushCell { cls := cA, slots := Array.replicate N .null, vm := .none }, [], by rw [State.pushCell_setTop], ⟨by simp [State.pushCell], fun q hq => State.heap_pushCell_of_lt _ _ hq, ⟨_, State.heap_pushCell_size _ _, rfl, rfl, by simp, fun j hj => by omega⟩, fun j hj => by omega⟩, rfl, by simp, (fun q hq => by cases hq), ?_⟩
    have h := X₁.pushed ({ cls := cA, slots := Array.replicate N .null, vm := .none } : Cell)
    simpa using h
  have inv1 : ∀ (f : JFrame) (i : Nat) (U : State), i < N → Inv f i U → U.heap.size = T.heap.size + 1 + i ∧ U.vm = vm₁ ∧ U.slotsUsed = T.slotsUsed + N + i * M ∧ ∃ oc : Cell, U.heap[T.heap.size]? = some oc ∧ oc.cls = cA ∧ oc.vm = .none ∧ oc.slots.size = N ∧
      Inv f (i + 1) ((U.pushCell { cls := cI, slots := Array.replicate M (.int 0), vm := .none }).setCell T.heap.size (oc.setSlot i (.ref (T.heap.size + 1 + i)))) := by
    rintro f i U hi ⟨T', L, rfl, ⟨h1, h2, ⟨oc, o1, o2, o3, o4, o5⟩, h4⟩, hv, hu, hL, XT⟩
    refine ⟨h1, hv, hu, oc, o1, o2, o3, o4, ?_⟩
    have hlt : T.heap.size < T'.heap.size := by omega
    have o1' : (T'.pushCell { cls := cI, slots := Array.replicate M (.int 0), vm := .none }).heap[T.heap.size]? = some oc := by rw [State.heap_pushCell_of_lt (h := hlt)]; exact o1
    refine ⟨(T'.pushCell { cls := cI, slots := Array.replicate M (.int 0), vm := .none }).setCell T.heap.size (oc.setSlot i (.ref (T.heap.size + 1 + i))), L ++ [⟨T.heap.size, i⟩], by rw [State.pushCell_setTop, State.setCell_setTop], ⟨?_, fun q hq => ?_, ⟨_, State.heap_setCell_self o1', o2, o3, by rw [k2_slotsz]; exact o4, fun j hj => ?_⟩, fun j hj => ?_⟩, hv, ?_, ?_, ?_⟩
    · rw [size_setCell, size_pushCell]
      omega
    · rw [State.heap_setCell_other (show T.heap.size ≠ q by omega), State.heap_pushCell_of_lt (h := show q < T'.heap.size by omega)]
      exact h2 q hq
    · by_cases e : j = i
      · subst e
        exact Cell.slots_setSlot_self _ (by rw [o4]; exact hi)
      · rw [slot_ne _ _ (Ne.symm e)]
        exact o5 j (by omega)
    · rw [State.heap_setCell_other (show T.heap.size ≠ T.heap.size + 1 + j by omega)]
      by_cases e : j = i
      · subst e
        rw [← h1]
        exact State.heap_pushCell_size _ _
      · rw [State.heap_pushCell_of_lt (h := show T.heap.size + 1 + j < T'.heap.size by omega)]
        exact h4 j (by omega)
    · show (T'.pushCell _).slotsUsed = _
      simp [hu, Nat.succ_mul]
      omega
    · intro q hq
      rcases List.mem_append.mp hq with h | h
      · exact hL q h
      · rw [List.mem_singleton.mp h]
    · have h := (XT.pushed ({ cls := cI, slots := Array.replicate M (.int 0), vm := .none } : Cell)).stored o1' i (.ref (T.heap.size + 1 + i))
      have e1 : ({ cls := cI, slots := Array.replicate M (.int 0), vm := .none } : Cell).slots.size = M := by simp
      rw [e1] at h
      rw [← List.append_assoc, show slots + N + (i + 1) * M = slots + N + i * M + M by rw [Nat.succ_mul]; omega]
      exact h
  have invM : ∀ (f : JFrame) (i : Nat), i ≤ N → Inv f i (mmF cA cI N M ((T.setVm vm₁).setTop f) i) := by
    intro f i
    induction i with
    | zero => exact fun _ => inv0 f
    | succ i ih =>
      intro hi
      obtain ⟨u1, u2, u3, oc, o1, o2, o3, o4, hI'⟩ := inv1 f i _ (by omega) (ih (by omega))
      have e1 : (mmF cA cI N M ((T.setVm vm₁).setTop f) i).heap[((T.setVm vm₁).setTop f).heap.size]? = some oc := o1
      show Inv f (i + 1) (State.setCell _ _ _)
      rw [e1]
      exact hI'
  obtain ⟨T', L, hTF, hR', -, -, hL, XT0⟩ := invM { g with stack := rest } N (Nat.le_refl _)
  have XT : Stand p l e R s g.method args below meth c T' locs (cells + 1 + N) (slots + N + N * M) := XT0.forget (fun q hq => by rw [hL q hq]; exact X.same.2.1)
  have hmake : ∀ (f : JFrame) (E : CtlPost) (d : Bool) (acts : List Action) (Qa : Addr → Pre), (∀ d' acts', Qa T.heap.size d' acts' (mmF cA cI N M ((T.setVm vm₁).setTop f) N)) → wp (multianewarray.make cA [n, k]) Qa E e d acts ((T.setVm vm₁).setTop f) := by
    intro f E d acts Qa hQa
    have hfind : ([k].find? (· < 0)) = none := by simp [hk]
    rw [multianewarray.make]
    simp only [wp_bind', W.ite, hn, if_false, wp_pure', W.theClass, State.vm_setTop, State.vm_setVm, hkA₁, hkindA₁, Option.some.injEq, exists_eq_left', hN]
    refine mm_new (kA := kA₁) (comp := cI) (ty := .array .int) hkA₁ hkindA₁ (by rw [hlim]; omega) (by rw [hmax]; show N * 4 ≤ _; omega) rfl (by show T.heap.size < _; omega) (by show T.slotsUsed + N ≤ _; omega) (fun acts' => ?_)
    simp only [hfind]
    rw [ite_self, wp_bind', Std.Legacy.Range.forIn_eq_forIn_range']
    have hsz : ([:N] : Std.Legacy.Range).size = N := by simp [Std.Legacy.Range.size]
    rw [hsz]
    show wp (forIn (List.range' 0 N 1) PUnit.unit _) _ E e d acts' _
    refine wp_forIn_inv (fun rest U => ∃ i, i ≤ N ∧ rest = List.range' i (N - i) ∧ U = mmF cA cI N M ((T.setVm vm₁).setTop f) i) _ _ ⟨0, Nat.zero_le _, rfl, rfl⟩ ?_ ?_
    · rintro x rest U d' acts2 Q' ⟨i, hi, hl, rfl⟩ hnext
      have hlt : i < N := by
        rcases Nat.lt_or_ge i N with h | h
        · exact h
        · rw [show N - i = 0 by omega] at hl
          cases hl
      rw [show N - i = (N - (i + 1)) + 1 by omega, List.range'_succ] at hl
      obtain ⟨rfl, rfl⟩ := List.cons.inj hl
      obtain ⟨u1, u2, u3, oc, o1, o2, o3, o4, -⟩ := inv1 f x _ hlt (invM f x hi)
      have enext : mmF cA cI N M ((T.setVm vm₁).setTop f) (x + 1) = ((mmF cA cI N M ((T.setVm vm₁).setTop f) x).pushCell { cls := cI, slots := Array.replicate M (.int 0), vm := .none }).setCell T.heap.size (oc.setSlot x (.ref (T.heap.size + 1 + x))) := by
        have e1 : (mmF cA cI N M ((T.setVm vm₁).setTop f) x).heap[((T.setVm vm₁).setTop f).heap.size]? = some oc := o1
        show State.setCell _ _ _ = _
        rw [e1]
        rfl
      have hmul : x * M + M ≤ N * M := by
        have := Nat.mul_le_mul_right M (show x + 1 ≤ N from hlt)
        rw [Nat.succ_mul] at this
        exact this
      simp only [wp_bind']
      rw [multianewarray.make]
      simp only [wp_bind', W.ite, hk, if_false, wp_pure', W.theClass, u2, hkI₁, hkindI₁, Option.some.injEq, exists_eq_left', hM]
      refine mm_new (kA := kI₁) (comp := c2) (ty := .int) (by rw [u2]; exact hkI₁) hkindI₁ (by rw [hlim]; omega) (by rw [hmax]; show M * 4 ≤ _; omega) rfl (by rw [u1]; omega) (by rw [u3]; omega) (fun acts3 => ?_)
      simp only [wp_bind', W.writeLoc, wp_pure']
      rw [u1]
      refine ⟨oc, ?_, by rw [o3]; simp, by rw [o4]; exact hlt, ?_, hnext _ _ _ ⟨x + 1, hlt, rfl, enext.symm⟩⟩
      · show ((mmF cA cI N M ((T.setVm vm₁).setTop f) x).pushCell _).heap[T.heap.size]? = some oc
        rw [State.heap_pushCell_of_lt (h := show T.heap.size < (mmF cA cI N M ((T.setVm vm₁).setTop f) x).heap.size by omega)]
        exact o1
      · rw [o2, o3]
        simp [State.fitsSlot, State.slotType?, u2, hkA₁, hkindA₁, fits]
    · rintro U d' acts2 ⟨i, hi, hl, rfl⟩
      have hiN : i = N := by
        rcases Nat.lt_or_ge i N with h | h
        · rw [show N - i = (N - (i + 1)) + 1 by omega, List.range'_succ] at hl
          cases hl
        · omega
      subst hiN
      simp only [wp_pure']
      exact hQa _ _
  refine ⟨T', hR', XT, fun target hrest => ?_⟩
  jvm_step X.here [hexec, hdg]
  simp only [multianewarray.sem, wp_bind', W.resolveClassAt_links (State.method?_setTop g X.here.top) hg₁]
  rw [W.popN, if_neg (by decide)]
  refine ⟨g, State.topJava?_setTop' (s := T.setVm vm₁) g X.here.top, [.int n, .int k], rest, rfl, hstack, ?_⟩
  simp only [List.mapM_cons, List.mapM_nil, wp_bind', wp_pure']
  have eS : ((T.setTop g).setVm vm₁).setTop { g with stack := rest } = (T.setVm vm₁).setTop { g with stack := rest } := by
    show ((T.setVm vm₁).setTop g).setTop _ = _
    rw [State.setTop_setTop]
  rw [eS]
  refine hmake _ _ _ _ _ (fun d' acts' => ?_)
  rw [hTF]
  simp only [wp_bind', W.mark, W.pushRef, State.topJava?_setTop' _ XT.here.top, Option.some.injEq, exists_eq_left', State.setTop_setTop, State.heap_setTop]
  intro acts
  simp [jvm, XT.here.top]
  exact hrest
end MMS
