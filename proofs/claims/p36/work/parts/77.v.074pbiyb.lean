/-! ===== one bar changes on both sides: slice, wax, goal, shave, job ===== -/
theorem GoV.row {v u : BW} (h : GoV v) (e : ∀ k, k < 3 → u 5 k = v 5 k) (t : ThV u) : GoV u := ⟨fun k hk => by rw [e k hk]; exact h.1 k hk, t⟩
theorem ThV.row {v u : BW} (h : ThV v) (e0 : u 0 0 = v 0 0) (e1 : ∀ j, u 1 j = v 1 j) : ThV u := fun j hj => by
  rw [e1]
  exact h j (by rw [← e0]; exact hj)
theorem GoV.eqw {v u : BW} (h : GoV v) (e : EqW v u) (o : ObV v) : GoV u := by
  have e0 : v 0 0 = u 0 0 := e.a 0 0 (by decide) (by decide)
  have o2 := o.2.1
  refine ⟨fun k hk => ?_, fun j hj => ?_⟩
  · rw [← e.a 5 k (by decide) (by show k < 3; exact hk)]
    exact h.1 k hk
  · rw [← e0] at hj
    rw [← e.a 1 j (by decide) (by show j < 16; omega)]
    exact h.2 j hj
theorem paV_th {T : TF} {sl : Int} {v : BW} {i d : Int} (h : ThV v) : ThV (paV T sl v i d) := by
  unfold paV
  by_cases c : 0 ≤ i ∧ i < v 0 0 ∧ 1 ≤ d ∧ d ≤ 9 ∧ d < v 1 i.toNat ∧ v 8 0 < 200
  · rw [if_pos c]
    have e0 : upV (upV (upV (upV v 1 i.toNat (v 1 i.toNat - d)) 6 (v 8 0).toNat i) 7 (v 8 0).toNat d) 8 0 (v 8 0 + 1) 0 0 = v 0 0 := by
      rw [upV_ne (Or.inl (by decide)), upV_ne (Or.inl (by decide)), upV_ne (Or.inl (by decide)), upV_ne (Or.inl (by decide))]
    have e1 : ∀ j, upV (upV (upV (upV v 1 i.toNat (v 1 i.toNat - d)) 6 (v 8 0).toNat i) 7 (v 8 0).toNat d) 8 0 (v 8 0 + 1) 1 j = upV v 1 i.toNat (v 1 i.toNat - d) 1 j := fun j => by
      rw [upV_ne (Or.inl (by decide)), upV_ne (Or.inl (by decide)), upV_ne (Or.inl (by decide))]
    have hw : ThV (upV (upV (upV (upV v 1 i.toNat (v 1 i.toNat - d)) 6 (v 8 0).toNat i) 7 (v 8 0).toNat d) 8 0 (v 8 0 + 1)) := fun j hj => by
      rw [e0] at hj
      rw [e1]
      by_cases z : j = i.toNat
      · subst z
        rw [upV_at]
        omega
      · rw [upV_ne (Or.inr z)]
        exact h j hj
    (try dsimp only)
    split
    · exact hw.row (upV_ne (Or.inl (by decide))) (fun j => upV_ne (Or.inl (by decide)))
    · exact hw
  · rw [if_neg c]
    exact h
theorem arV_th {T : TF} {sl am mi : Int} : ∀ (n : Nat) (s : Int) (v : BW), ThV v → ThV (arV T sl am mi n s v)
  | 0, _, _, h => h
  | n + 1, s, v, h => arV_th n (s + 1) _ (paV_th h)
theorem liV_th {T : TF} {sl wd i j am : Int} {v : BW} (h : ThV v) : ThV (liV T sl wd i j am v) := by
  unfold liV
  split
  · split
    · exact h.row (upV_ne (Or.inl (by decide))) (fun j => upV_ne (Or.inl (by decide)))
    · exact h
  · split
    · exact paV_th h
    · exact arV_th _ _ _ h
theorem joV_th {T : TF} {sl : Int} {wd f1 f2 f3 : Nat → Int} {hw : Nat → Bool} {fw : Nat → EF} : ∀ (n l : Nat) (v : BW), ThV v → ThV (joV T sl wd f1 f2 f3 hw fw n l v)
  | 0, _, _, h => h
  | n + 1, l, v, h => by
    show ThV (joV T sl wd f1 f2 f3 hw fw n (l + 1) _)
    split
    · exact joV_th n (l + 1) _ (liV_th h)
    · exact joV_th n (l + 1) _ h
theorem paV_5 {T : TF} {sl : Int} {v : BW} {i d : Int} {k : Nat} : paV T sl v i d 5 k = v 5 k := by
  unfold paV
  by_cases c : 0 ≤ i ∧ i < v 0 0 ∧ 1 ≤ d ∧ d ≤ 9 ∧ d < v 1 i.toNat ∧ v 8 0 < 200
  · rw [if_pos c]
    have e : upV (upV (upV (upV v 1 i.toNat (v 1 i.toNat - d)) 6 (v 8 0).toNat i) 7 (v 8 0).toNat d) 8 0 (v 8 0 + 1) 5 k = v 5 k := by
      rw [upV_ne (Or.inl (by decide)), upV_ne (Or.inl (by decide)), upV_ne (Or.inl (by decide)), upV_ne (Or.inl (by decide))]
    (try dsimp only)
    split
    · rw [upV_ne (Or.inl (by decide))]
      exact e
    · exact e
  · rw [if_neg c]
theorem arV_5 {T : TF} {sl am mi : Int} {k : Nat} : ∀ (n : Nat) (s : Int) (v : BW), arV T sl am mi n s v 5 k = v 5 k
  | 0, _, _ => rfl
  | n + 1, s, v => by
    show arV T sl am mi n (s + 1) (paV T sl v s (am - (if s - mi < 0 then mi - s else s - mi))) 5 k = _
    rw [arV_5 n, paV_5]
theorem liV_5 {T : TF} {sl wd i j am : Int} {v : BW} {k : Nat} : liV T sl wd i j am v 5 k = v 5 k := by
  unfold liV
  by_cases c6 : wd = 6
  · rw [if_pos c6]
    by_cases c : 0 ≤ i ∧ i < v 0 0
    · rw [if_pos c, upV_ne (Or.inl (by decide))]
    · rw [if_neg c]
  · rw [if_neg c6]
    by_cases c4 : wd = 4
    · rw [if_pos c4, paV_5]
    · rw [if_neg c4, arV_5]
theorem joV_5 {T : TF} {sl : Int} {wd f1 f2 f3 : Nat → Int} {hw : Nat → Bool} {fw : Nat → EF} {k : Nat} : ∀ (n l : Nat) (v : BW), joV T sl wd f1 f2 f3 hw fw n l v 5 k = v 5 k
  | 0, _, _ => rfl
  | n + 1, l, v => by
    show joV T sl wd f1 f2 f3 hw fw n (l + 1) (if hw l = false ∨ fw l (sbE (toV T v 0) (toV T v 1) (toV T v 2) (v 8 0)) ≠ 0 then liV T sl (wd l) (f1 l) (f2 l) (f3 l) v else v) 5 k = _
    rw [joV_5 n]
    by_cases c : hw l = false ∨ fw l (sbE (toV T v 0) (toV T v 1) (toV T v 2) (v 8 0)) ≠ 0
    · rw [if_pos c, liV_5]
    · rw [if_neg c]
/-- what a change that both sides make leaves -/
def CHB (v1 u1 : BW) : Prop := EqW v1 u1 ∧ ObV v1 ∧ GoV v1
theorem slice_both {v u v1 u1 : BW} {r q i t g h : Int} (e : EqW v u) (o : ObV v) (go : GoV v) (a : (r = 1 ∧ slK v i t g h ∧ v1 = slV v i t g h) ∨ (r = 0 ∧ ¬ slK v i t g h ∧ v1 = v)) (b : (q = 1 ∧ slK u i t g h ∧ u1 = slV u i t g h) ∨ (q = 0 ∧ ¬ slK u i t g h ∧ u1 = u)) : r = q ∧ CHB v1 u1 := by
  rcases a with ⟨ar, ak, av⟩ | ⟨ar, ak, av⟩
  · rcases b with ⟨br, bk, bv⟩ | ⟨br, bk, bv⟩
    · subst av; subst bv
      refine ⟨by omega, slV_congr e, ?_, go.row (fun k hk => ?_) (fun j hj => ?_)⟩
      · have e0 : slV v i t g h 0 0 = v 0 0 := by unfold slV; rw [upV_ne (Or.inl (by decide)), upV_ne (Or.inl (by decide)), upV_ne (Or.inl (by decide))]
        have e8 : slV v i t g h 8 0 = v 8 0 := by unfold slV; rw [upV_ne (Or.inl (by decide)), upV_ne (Or.inl (by decide)), upV_ne (Or.inl (by decide))]
        unfold ObV at o ⊢
        rw [e0, e8]
        exact o
      · unfold slV
        rw [upV_ne (Or.inl (by decide)), upV_ne (Or.inl (by decide)), upV_ne (Or.inl (by decide))]
      · have e0 : slV v i t g h 0 0 = v 0 0 := by unfold slV; rw [upV_ne (Or.inl (by decide)), upV_ne (Or.inl (by decide)), upV_ne (Or.inl (by decide))]
        rw [e0] at hj
        have e1 : slV v i t g h 1 j = upV v 1 i.toNat t 1 j := by unfold slV; rw [upV_ne (Or.inl (by decide)), upV_ne (Or.inl (by decide))]
        rw [e1]
        by_cases z : j = i.toNat
        · subst z
          rw [upV_at]
          unfold slK at ak
          omega
        · rw [upV_ne (Or.inr z)]
          exact go.2 j hj
    · exact absurd ((slK_congr e).mp ak) bk
  · rcases b with ⟨br, bk, bv⟩ | ⟨br, bk, bv⟩
    · exact absurd ((slK_congr e).mpr bk) ak
    · subst av; subst bv
      exact ⟨by omega, e, o, go⟩
theorem wax_both {v u v1 u1 : BW} {r q i x : Int} (e : EqW v u) (o : ObV v) (go : GoV v) (a : (r = 1 ∧ wxK v i x ∧ v1 = wxV v i x) ∨ (r = 0 ∧ ¬ wxK v i x ∧ v1 = v)) (b : (q = 1 ∧ wxK u i x ∧ u1 = wxV u i x) ∨ (q = 0 ∧ ¬ wxK u i x ∧ u1 = u)) : r = q ∧ CHB v1 u1 := by
  rcases a with ⟨ar, ak, av⟩ | ⟨ar, ak, av⟩
  · rcases b with ⟨br, bk, bv⟩ | ⟨br, bk, bv⟩
    · subst av; subst bv
      refine ⟨by omega, wxV_congr e, ?_, go.row (fun k hk => ?_) (go.2.row (upV_ne (Or.inl (by decide))) (fun j => upV_ne (Or.inl (by decide))))⟩
      · have e0 : wxV v i x 0 0 = v 0 0 := upV_ne (Or.inl (by decide))
        have e8 : wxV v i x 8 0 = v 8 0 := upV_ne (Or.inl (by decide))
        unfold ObV at o ⊢
        rw [e0, e8]
        exact o
      · exact upV_ne (Or.inl (by decide))
    · exact absurd ((wxK_congr e).mp ak) bk
  · rcases b with ⟨br, bk, bv⟩ | ⟨br, bk, bv⟩
    · exact absurd ((wxK_congr e).mpr bk) ak
    · subst av; subst bv
      exact ⟨by omega, e, o, go⟩
theorem goal_both {v u v1 u1 : BW} {r q k g : Int} (e : EqW v u) (o : ObV v) (go : GoV v) (a : (r = 1 ∧ glK k g ∧ v1 = glV v k g) ∨ (r = 0 ∧ ¬ glK k g ∧ v1 = v)) (b : (q = 1 ∧ glK k g ∧ u1 = glV u k g) ∨ (q = 0 ∧ ¬ glK k g ∧ u1 = u)) : r = q ∧ CHB v1 u1 := by
  rcases a with ⟨ar, ak, av⟩ | ⟨ar, ak, av⟩
  · rcases b with ⟨br, bk, bv⟩ | ⟨br, bk, bv⟩
    · subst av; subst bv
      refine ⟨by omega, glV_congr e, ?_, fun j hj => ?_, go.2.row (upV_ne (Or.inl (by decide))) (fun j => upV_ne (Or.inl (by decide)))⟩
      · have e0 : glV v k g 0 0 = v 0 0 := upV_ne (Or.inl (by decide))
        have e8 : glV v k g 8 0 = v 8 0 := upV_ne (Or.inl (by decide))
        unfold ObV at o ⊢
        rw [e0, e8]
        exact o
      · unfold glK at ak
        show 0 ≤ upV v 5 k.toNat g 5 j ∧ upV v 5 k.toNat g 5 j ≤ 999999
        by_cases c : j = k.toNat
        · subst c
          rw [upV_at]
          omega
        · rw [upV_ne (Or.inr c)]
          exact go.1 j hj
    · exact absurd ak bk
  · rcases b with ⟨br, bk, bv⟩ | ⟨br, bk, bv⟩
    · exact absurd bk ak
    · subst av; subst bv
      exact ⟨by omega, e, o, go⟩
theorem shave_both {T U : TF} {v u v1 u1 : BW} {sl r q i d : Int} (hT : EqT T U) (e : EqW v u) (o : ObV v) (go : GoV v) (av : v1 = paV T sl v i d) (bv : u1 = paV U sl u i d) (ar : r = paR v i d) (br : q = paR u i d) : r = q ∧ CHB v1 u1 := by
  subst av; subst bv
  exact ⟨by rw [ar, br]; exact paR_congrW e o, paV_congrW hT e o, paV_ok o, go.row (fun k _ => paV_5) (paV_th go.2)⟩
theorem CHB.jo {T : TF} {sl : Int} {wd f1 f2 f3 : Nat → Int} {hw : Nat → Bool} {fw : Nat → EF} {n l : Nat} {v u1 : BW} (o : ObV v) (go : GoV v) (e : EqW (joV T sl wd f1 f2 f3 hw fw n l v) u1) : CHB (joV T sl wd f1 f2 f3 hw fw n l v) u1 := ⟨e, joV_ok n l v o, go.row (fun k _ => joV_5 n l v) (joV_th n l v go.2)⟩
