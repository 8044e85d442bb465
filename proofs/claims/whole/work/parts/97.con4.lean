/-! constructors: an array of arrays -/
theorem outerQ (c : ClassId) (N h0 : Nat) : ∀ i : Nat, Jvm.Free.Multi.outerC c N h0 i = arrV c N (fun j => va_rf (if j < i then some (h0 + 1 + j) else none))
  | 0 => by
    show ({ cls := c, slots := Array.replicate N .null, vm := .none } : Cell) = _
    rw [arrV_new]
    refine congrArg (arrV c N) (funext fun j => ?_)
    rw [if_neg (Nat.not_lt_zero j)]
    rfl
  | i + 1 => by
    show (Jvm.Free.Multi.outerC c N h0 i).setSlot i (.ref (h0 + 1 + i)) = _
    rw [outerQ c N h0 i, arrV_store]
    refine congrArg (arrV c N) (funext fun j => ?_)
    unfold updV
    by_cases e : j = i
    · rw [if_pos e, if_pos (by omega), e]
      rfl
    · rw [if_neg e]
      show va_rf (if j < i then some (h0 + 1 + j) else none) = _
      by_cases h : j < i
      · rw [if_pos h, if_pos (by omega)]
      · rw [if_neg h, if_neg (by omega)]
theorem innerQ (c : ClassId) : Jvm.Free.Multi.innerC c 6 (defaultValue .int) = vp_cell c (6, .inl (fun _ => 0)) := by
  show ({ cls := c, slots := Array.replicate 6 (.int 0), vm := .none } : Cell) = _
  rw [arrV_new]
  rfl
theorem gn_multi {own : String} {cc : ByteArray} {nL d n q : Nat} {aC : Nat → ClassId} {a z ci σ pc pc' index : Nat} {ls : List (Option Value)} {st : List Value} {fs : List Value} {es : List va_E} {F : List Value × List va_E} (hd : decode cc pc = .ok (.multianewarray index 2, 4)) (hp : pc + 4 = pc') (hw : Cond.classLink own index "[[I" ∈ gtb) (hw3 : Cond.arrayClass .int ∈ gtb) (hc : es.length + 4 ≤ n) (hq : σ + 21 ≤ q) (kk : gN own cc nL d n q aC a z ci (σ + 21) pc' ls (.ref (z + es.length) :: st) fs (es ++ [.inl (aC 4, 3, .inr (.inr (.inr (.inr (fun i => if i < 3 then some (z + es.length + 1 + i) else none))))), .inl (aC 0, 6, .inl (fun _ => 0)), .inl (aC 0, 6, .inl (fun _ => 0)), .inl (aC 0, 6, .inl (fun _ => 0))]) F) : gN own cc nL d n q aC a z ci σ pc ls (.int (zI 6) :: .int (zI 3) :: st) fs es F := by
  subst hp
  intro p l e s m args below meth c D C hz haz H locs lsA hP hS hL
  refine W.sz (fun hle => ?_)
  obtain ⟨hx, hb, hml, hr, hown, hts, hlocks, hin, hK, hO⟩ := id C
  have hH := nW_size hP hz hS hle
  intro T hT Xs
  have n3 : (zI 3).toNatClampNeg = 3 := by decide +kernel
  have n6 : (zI 6).toNatClampNeg = 6 := by decide +kernel
  obtain ⟨vm₁, cA, comp, -, fA, fC, -, -, X', step⟩ := Xs.multianewarray2F (n := zI 3) (k := zI 6) (ty := .int) hx hown (hts _ hw) (over_moved (Vm.Alike.refl s.vm) hO.1) (hts _ hw3) (g := F0 m pc lsA (.int (zI 6) :: .int (zI 3) :: st)) rfl (by rw [hb]; exact hd) rfl (by decide +kernel) (by decide +kernel) (by rw [n3]; decide) (by rw [n6]; decide) (by rw [n6]; decide) rfl rfl (by rw [n3]; exact hc) (by rw [n3, n6]; exact hq)
  rw [n3, n6] at X' step
  have hcomp : comp = aC 0 := Option.some.inj (fC.symm.trans (hK.2 0 _ rfl).2)
  have hcA : cA = aC 4 := Option.some.inj (fA.symm.trans (hK.2 4 _ rfl).2)
  subst hcomp
  subst hcA
  generalize hF : Jvm.Free.Multi.fill (T.setVm vm₁) (aC 4) (aC 0) 3 6 (defaultValue .int) 3 = G at X' step
  have hTh : (T.setVm vm₁).heap = H := hT
  obtain ⟨f1, f2, -, -⟩ := Jvm.Free.Multi.fill_facts (T.setVm vm₁) (aC 4) (aC 0) 3 6 (defaultValue .int) 3
  rw [hF, hTh] at f1 f2
  have hold : ∀ x : Nat, x < H.size → G.heap[x]? = H[x]? := fun x hx => by
    have := Jvm.Free.Multi.fill_old (T.setVm vm₁) (aC 4) (aC 0) 3 6 (defaultValue .int) (a := x) (by rw [hTh]; exact hx) 3
    rw [hF, hTh] at this
    exact this
  have hrow : ∀ j : Nat, j < 3 → G.heap[H.size + 1 + j]? = some (vp_cell (aC 0) (6, .inl (fun _ => 0))) := fun j hj => by
    have := Jvm.Free.Multi.fill_inner (T.setVm vm₁) (aC 4) (aC 0) 3 6 (defaultValue .int) 3 j hj
    rw [hF, hTh, innerQ] at this
    exact this
  rw [outerQ] at f2
  have hP2 : va_P D vwCl (nW a ci fs z (es ++ [.inl (aC 4, 3, .inr (.inr (.inr (.inr (fun i => if i < 3 then some (z + es.length + 1 + i) else none))))), .inl (aC 0, 6, .inl (fun _ => 0)), .inl (aC 0, 6, .inl (fun _ => 0)), .inl (aC 0, 6, .inl (fun _ => 0))])) G.heap := by
    intro k x hx
    rcases nW_get hx with ⟨rfl, rfl⟩ | ⟨j, e', rfl, he, rfl⟩
    · have h0 : (nW a ci fs z es)[0]? = some (a, .inr (ci, fs)) := rfl
      exact (hP 0 _ h0).kept (hold a (hP 0 _ h0).lt)
    · rcases Nat.lt_or_ge j es.length with q1 | q1
      · rw [List.getElem?_append_left q1] at he
        have h0 : (nW a ci fs z es)[j + 1]? = some (z + j, e') := by
          show (lay z es)[j]? = _
          rw [lay_get, he]
          rfl
        exact (hP (j + 1) _ h0).kept (hold (z + j) (hP (j + 1) _ h0).lt)
      · rw [List.getElem?_append_right q1] at he
        have hj4 : j - es.length < 4 := (List.getElem?_eq_some_iff.mp he).1
        rcases (show j = es.length ∨ j = es.length + 1 ∨ j = es.length + 2 ∨ j = es.length + 3 by omega) with rfl | rfl | rfl | rfl
        · rw [Nat.sub_self] at he
          cases he
          show G.heap[z + es.length]? = some (vp_cell (aC 4) _)
          rw [← hH, f2, vp_cell_q]
        · rw [show es.length + 1 - es.length = 1 by omega] at he
          cases he
          show G.heap[z + (es.length + 1)]? = some (vp_cell (aC 0) _)
          rw [show z + (es.length + 1) = H.size + 1 + 0 by omega]
          exact hrow 0 (by decide)
        · rw [show es.length + 2 - es.length = 2 by omega] at he
          cases he
          show G.heap[z + (es.length + 2)]? = some (vp_cell (aC 0) _)
          rw [show z + (es.length + 2) = H.size + 1 + 1 by omega]
          exact hrow 1 (by decide)
        · rw [show es.length + 3 - es.length = 3 by omega] at he
          cases he
          show G.heap[z + (es.length + 3)]? = some (vp_cell (aC 0) _)
          rw [show z + (es.length + 3) = H.size + 1 + 2 by omega]
          exact hrow 2 (by decide)
  have hS2 : va_S (nA a z) s.heap G.heap locs := ⟨by rw [f1]; have := hS.1; omega, fun x h1 h2 => (hold x (Nat.lt_of_lt_of_le h1 hS.1)).trans (hS.2.1 x h1 h2), hS.2.2⟩
  have w := kk p l e s m args below meth c D C hz haz G.heap locs lsA hP2 hS2 hL
  rw [List.length_append] at w
  obtain ⟨t, a1, b1⟩ := w G rfl X'
  refine ⟨t, step t ?_, b1⟩
  have e1 : T.heap.size = z + es.length := by rw [hT]; exact hH
  rw [e1]
  exact a1
