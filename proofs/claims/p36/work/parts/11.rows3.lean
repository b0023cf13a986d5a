/-! ===== rows with names for what comes ===== -/
theorem i_lt {x y : Int32} (h : x < y) : x.toInt < y.toInt := Int32.lt_iff_toInt_lt.mp h
theorem i_nlt {x y : Int32} (h : ¬ x < y) : y.toInt ≤ x.toInt := by
  have : ¬ x.toInt < y.toInt := fun q => h (Int32.lt_iff_toInt_lt.mpr q)
  omega
theorem i_le {x y : Int32} (h : x ≤ y) : x.toInt ≤ y.toInt := Int32.le_iff_toInt_le.mp h
theorem i_nle {x y : Int32} (h : ¬ x ≤ y) : y.toInt < x.toInt := by
  have : ¬ x.toInt ≤ y.toInt := fun q => h (Int32.le_iff_toInt_le.mpr q)
  omega
theorem i_eq {x y : Int32} (h : x = y) : x.toInt = y.toInt := by rw [h]
theorem i_ne {x y : Int32} (h : ¬ x = y) : x.toInt ≠ y.toInt := fun q => h (Int32.toInt_inj.mp q)
theorem i_of {x y : Int32} (h : x.toInt = y.toInt) : x = y := Int32.toInt_inj.mp h
theorem i_rng (x : Int32) : -2147483648 ≤ x.toInt ∧ x.toInt ≤ 2147483647 := by
  have h1 := Int32.le_toInt x
  have h2 := Int32.toInt_lt x
  omega
theorem i_bm {z : Int} (h1 : -2147483648 ≤ z) (h2 : z ≤ 2147483647) : z.bmod (2 ^ 32) = z := by
  apply Int.bmod_eq_of_le <;> omega
theorem i_add {x y z : Int32} (e : z = x + y) (h : -2147483648 ≤ x.toInt + y.toInt ∧ x.toInt + y.toInt ≤ 2147483647) : z.toInt = x.toInt + y.toInt := by
  rw [e, Int32.toInt_add]
  exact i_bm h.1 h.2
theorem i_sub {x y z : Int32} (e : z = x - y) (h : -2147483648 ≤ x.toInt - y.toInt ∧ x.toInt - y.toInt ≤ 2147483647) : z.toInt = x.toInt - y.toInt := by
  rw [e, Int32.toInt_sub]
  exact i_bm h.1 h.2
theorem i_mul {x y z : Int32} (e : z = x * y) (h : -2147483648 ≤ x.toInt * y.toInt ∧ x.toInt * y.toInt ≤ 2147483647) : z.toInt = x.toInt * y.toInt := by
  rw [e, Int32.toInt_mul]
  exact i_bm h.1 h.2
theorem i_cl {x : Int32} (h : 0 ≤ x.toInt) : (x.toNatClampNeg : Int) = x.toInt := by
  show ((x.toInt.toNat : Nat) : Int) = x.toInt
  omega
section X3
variable {p : Program} {l : Launch} {e : Env} {R : Room} {s : State} {m : MethodId} {args : Array Value} {below : List Frame} {meth : Method} {c : Code} {H : Heap} {locs : List Loc} {cells slots : Nat} {Q : State → Prop}
variable {K : KE} {own nm : String} {b : ByteArray} {n : Nat} {r : Option FieldType} {pc : Nat} {ls : Array Slot} {rest st : List Value} {A A0 A1 : Nat → Prop} {H0 : Heap} {G : Nat → Option Nat} {post : Option Value → Heap → Prop} {mc ms : Nat}
theorem x_gi (C : CX p K s m args meth c own b n r nm) (hT : TY K G H) {ci k N idx a t : Nat} {Cn : String} {T : u_T} {fs : List FT} {lo hi : Int} (hc : vwCl[ci]? = some (Cn, T, N)) (hin : ∀ w ∈ u_ws Cn T N, w ∈ okW) (hk : k < N) (hw : Cond.fieldLink own idx (T k).1 (T k).2.1 (T k).2.2.1 ∈ okW)
    (hG : G a = some t) (hs : rgT[t]? = some (.inl (ci, fs))) (hf : fs[k]? = some (0, lo, hi)) (hd : decode b pc = .ok (.getfield idx, 3))
    (kk : ∀ x : Int32, x = fI H a (K.1.2 ci k) → lo ≤ x.toInt ∧ x.toInt ≤ hi → W p l e R s m args below meth c H locs cells slots Q (F0 m (pc + 3) ls (.int x :: rest))) : W p l e R s m args below meth c H locs cells slots Q (F0 m pc ls (.ref a :: rest)) :=
  x_geti C hT hc hin hk hw hG hs hf hd (fun h => kk _ rfl h)
theorem x_gr (C : CX p K s m args meth c own b n r nm) (hT : TY K G H) {ci k N idx a t u : Nat} {Cn : String} {T : u_T} {fs : List FT} {bb : Int} (hc : vwCl[ci]? = some (Cn, T, N)) (hin : ∀ w ∈ u_ws Cn T N, w ∈ okW) (hk : k < N) (hw : Cond.fieldLink own idx (T k).1 (T k).2.1 (T k).2.2.1 ∈ okW)
    (hG : G a = some t) (hs : rgT[t]? = some (.inl (ci, fs))) (hf : fs[k]? = some (2, (u : Int), bb)) (hd : decode b pc = .ok (.getfield idx, 3))
    (kk : ∀ q : Nat, q = fR H a (K.1.2 ci k) → G q = some u → W p l e R s m args below meth c H locs cells slots Q (F0 m (pc + 3) ls (.ref q :: rest))) : W p l e R s m args below meth c H locs cells slots Q (F0 m pc ls (.ref a :: rest)) :=
  x_getr C hT hc hin hk hw hG hs hf hd (fun h => kk _ rfl h)
theorem x_gn (C : CX p K s m args meth c own b n r nm) (hT : TY K G H) {ci k N idx a t u : Nat} {Cn : String} {T : u_T} {fs : List FT} {bb : Int} (hc : vwCl[ci]? = some (Cn, T, N)) (hin : ∀ w ∈ u_ws Cn T N, w ∈ okW) (hk : k < N) (hw : Cond.fieldLink own idx (T k).1 (T k).2.1 (T k).2.2.1 ∈ okW)
    (hG : G a = some t) (hs : rgT[t]? = some (.inl (ci, fs))) (hf : fs[k]? = some (3, (u : Int), bb)) (hd : decode b pc = .ok (.getfield idx, 3))
    (k0 : fV H a (K.1.2 ci k) = .null → W p l e R s m args below meth c H locs cells slots Q (F0 m (pc + 3) ls (.null :: rest)))
    (k1 : ∀ q : Nat, q = fR H a (K.1.2 ci k) → fV H a (K.1.2 ci k) = .ref q → G q = some u → W p l e R s m args below meth c H locs cells slots Q (F0 m (pc + 3) ls (.ref q :: rest))) : W p l e R s m args below meth c H locs cells slots Q (F0 m pc ls (.ref a :: rest)) :=
  x_getn C hT hc hin hk hw hG hs hf hd k0 (fun h1 h2 => k1 _ rfl h1 h2)
theorem x_ai (C : CX p K s m args meth c own b n r nm) (hT : TY K G H) {a t N : Nat} {lo hi : Int} {j : Int32} (hG : G a = some t) (hs : rgT[t]? = some (.inr (0, N, (0, lo, hi)))) (hj : 0 ≤ j.toInt ∧ j.toInt < N) (hd : decode b pc = .ok (.iaload, 1))
    (kk : ∀ x : Int32, x = fI H a j.toNatClampNeg → lo ≤ x.toInt ∧ x.toInt ≤ hi → W p l e R s m args below meth c H locs cells slots Q (F0 m (pc + 1) ls (.int x :: rest))) : W p l e R s m args below meth c H locs cells slots Q (F0 m pc ls (.int j :: .ref a :: rest)) :=
  x_iald C hT hG hs hj.1 hj.2 hd (fun h => kk _ rfl h)
theorem x_ar (C : CX p K s m args meth c own b n r nm) (hT : TY K G H) {a t ti N u : Nat} {bb : Int} {j : Int32} {ty : FieldType} (ht : (tyL K.2.1)[ti]? = some (K.2.1 ti, ty)) (hty : ty.isReference = true) (hG : G a = some t) (hs : rgT[t]? = some (.inr (ti, N, (2, (u : Int), bb)))) (hj : 0 ≤ j.toInt ∧ j.toInt < N) (hd : decode b pc = .ok (.aaload, 1))
    (kk : ∀ q : Nat, q = fR H a j.toNatClampNeg → G q = some u → W p l e R s m args below meth c H locs cells slots Q (F0 m (pc + 1) ls (.ref q :: rest))) : W p l e R s m args below meth c H locs cells slots Q (F0 m pc ls (.int j :: .ref a :: rest)) :=
  x_aald C hT ht hty hG hs hj.1 hj.2 hd (fun h => kk _ rfl h)
/-- a call, when it has come back: H1 with what the contract says -/
theorem x_lt {K : KE} {G : Nat → Option Nat} {H : Heap} {e1 : List Nat} {H1 : Heap} (hT : TY K G H) (hk : ∀ q : Nat, q < H.size → ¬ AE G e1 H.size q → H1[q]? = H[q]?) {q t : Nat} (hq : G q = some t) (ht : t ∉ e1) : H1[q]? = H[q]? := hk q (hT.lt hq) (AE_not hq ht (hT.lt hq))
end X3
/-! longs -/
