/-! constructors: new cells, fields, calls -/
theorem W.sz {p : Program} {l : Launch} {e : Env} {R : Room} {s : State} {m : MethodId} {args : Array Value} {below : List Frame} {meth : Method} {c : Code} {H : Heap} {locs : List Loc} {cells slots : Nat} {Q : State → Prop} {g : JFrame} (k : H.size ≤ s.heap.size + cells → W p l e R s m args below meth c H locs cells slots Q g) : W p l e R s m args below meth c H locs cells slots Q g := fun T hT X => k (by
  have h := X.same.2.2.1
  rw [← hT]
  exact h) T hT X
theorem lay_len : ∀ (l : List va_E) (z : Nat), (lay z l).length = l.length
  | [], _ => rfl
  | _ :: l, z => by
    show (lay (z + 1) l).length + 1 = l.length + 1
    rw [lay_len l (z + 1)]
theorem nW_push {a ci z : Nat} {fs : List Value} {es : List va_E} {e : va_E} : nW a ci fs z es ++ [(z + es.length, e)] = nW a ci fs z (es ++ [e]) := by
  unfold nW
  rw [lay_app]
  rfl
theorem nW_q {D : va_G} {a ci z q : Nat} {fs : List Value} {es : List va_E} {e : va_E} {H1 : Heap} (hP : va_P D vwCl (nW a ci fs z es ++ [(q, e)]) H1) (hD : va_D (nA a z) (nW a ci fs z es ++ [(q, e)])) (hle : H1.size ≤ z + (es.length + 1)) : q = z + es.length := by
  have hl : (nW a ci fs z es).length = es.length + 1 := by
    show (lay z es).length + 1 = _
    rw [lay_len]
  have hq : (nW a ci fs z es ++ [(q, e)])[es.length + 1]? = some (q, e) := by
    rw [List.getElem?_append_right (by omega), hl, Nat.sub_self]
    rfl
  have hlt : q < H1.size := (hP _ _ hq).lt
  have h0 : (nW a ci fs z es ++ [(q, e)])[0]? = some (a, .inr (ci, fs)) := rfl
  rcases hD.2 _ _ hq with h | h
  · have h2 : q = a := h
    have := hD.1 0 _ _ _ h0 hq h2.symm
    omega
  · rcases Nat.lt_or_ge q (z + es.length) with h3 | h3
    · obtain ⟨e', he'⟩ : ∃ e', es[q - z]? = some e' := ⟨_, List.getElem?_eq_getElem (by omega)⟩
      have hk : (nW a ci fs z es ++ [(q, e)])[q - z + 1]? = some (z + (q - z), e') := by
        rw [List.getElem?_append_left (by omega)]
        show (lay z es)[q - z]? = _
        rw [lay_get, he']
        rfl
      have := hD.1 _ _ _ _ hk hq (show z + (q - z) = q by omega)
      omega
    · omega
theorem nW_size {D : va_G} {a ci z : Nat} {fs : List Value} {es : List va_E} {s : State} {H : Heap} {locs : List Loc} (hP : va_P D vwCl (nW a ci fs z es) H) (hz : s.heap.size = z) (hS : va_S (nA a z) s.heap H locs) (hle : H.size ≤ s.heap.size + es.length) : H.size = z + es.length := by
  have h1 := hS.1
  cases hn : es.length with
  | zero => omega
  | succ n =>
    obtain ⟨e', he'⟩ : ∃ e', es[n]? = some e' := ⟨_, List.getElem?_eq_getElem (by omega)⟩
    have hk : (nW a ci fs z es)[n + 1]? = some (z + n, e') := by
      show (lay z es)[n]? = _
      rw [lay_get, he']
      rfl
    have h2 : z + n < H.size := (hP _ _ hk).lt
    omega
theorem va_RA_u {U : State} {c1 c2 : ClassId} {ty : FieldType} (h1 : va_RA U c1 ty) (h2 : va_RA U c2 ty) : c1 = c2 := by
  cases ty with
  | object C =>
    obtain ⟨_, _, _, _, _, e1⟩ := h1
    obtain ⟨_, _, _, _, _, e2⟩ := h2
    exact Option.some.inj (e1.symm.trans e2)
  | _ => exact Option.some.inj (h1.symm.trans h2)
theorem gtys_len {aC : Nat → ClassId} {x : ClassId × FieldType} : (gtys aC ++ [x])[5]? = some x := rfl
section NROWS2
variable {own : String} {cc : ByteArray} {nL d n q : Nat} {aC : Nat → ClassId} {a z ci σ pc pc' : Nat} {ls : List (Option Value)} {st : List Value} {fs : List Value} {es : List va_E} {F : List Value × List va_E}
theorem gn_newa {atype : ArrayType} {ty : FieldType} {k N : Nat} {a0 : vp_A} (hd : decode cc pc = .ok (.newarray atype, 2)) (hp : pc + 2 = pc') (hty : newarray.typeOf atype = ty) (hk : (gtys aC)[k]? = some (aC k, ty)) (hw : Cond.arrayClass ty ∈ gtb) (ha : ∀ cA : ClassId, vp_cell cA a0 = arrV cA N (fun _ => defaultValue ty)) (hN : N ≤ 2000) (hb4 : N * componentBytes ty ≤ 536870912) (hc : es.length + 1 ≤ n) (hq : σ + N ≤ q) (kk : gN own cc nL d n q aC a z ci (σ + N) pc' ls (.ref (z + es.length) :: st) fs (es ++ [.inl (aC k, a0)]) F) : gN own cc nL d n q aC a z ci σ pc ls (.int (zI (N : Int)) :: st) fs es F := by
  subst hp
  intro p l e s m args below meth c D C hz haz H locs lsA hP hS hL
  obtain ⟨hx, hb, hml, hr, hown, hts, hlocks, hin, hK, hO⟩ := id C
  refine va_newa hx hb (by rw [hty]; exact hts _ hw) hty hK hP (nW_D haz) hS (fun x h => Or.inr (by omega)) (n := zI (N : Int)) ha ?_ ?_ hb4 hc hq hd (fun q' cA H1 hK1 hP1 hD1 hS1 => W.sz (fun hle => ?_))
  · intro h
    have := (zI_lt (a := (N : Int)) (b := 0) (by omega) (by omega)).mp h
    omega
  · rw [zI_clamp (by omega)]
    exact Int.toNat_natCast N
  · have hcA : cA = aC k := va_RA_u (hK1.2 5 _ gtys_len).2 (hK.2 k _ hk).2
    subst hcA
    have hq' := nW_q hP1 hD1 (by omega)
    subst hq'
    rw [nW_push] at hP1
    have w := kk p l e s m args below meth c D C hz haz H1 locs lsA hP1 hS1 hL
    rw [List.length_append] at w
    exact w
theorem gn_new {C' : String} {T : u_T} {N cj index : Nat} {f0 : List Value} (hd : decode cc pc = .ok (.new index, 3)) (hp : pc + 3 = pc') (hw : Cond.classLink own index C' ∈ gtb) (hw2 : Cond.instantiable C' N ∈ gtb) (hw3 : Cond.initialized C' ∈ gtb) (ty : Nat → FieldType) (hty : ∀ k, k < N → parseFieldDescriptor (T k).2.2.1 = some (ty k)) (hu : ∀ w ∈ u_ws C' T N, w ∈ gtb) (hcj : vwCl[cj]? = some (C', T, N)) (hfs : ∀ j, j < N → defaultValue (ty j) = vp_V f0 j) (hc : es.length + 1 ≤ n) (hq : σ + N ≤ q) (kk : gN own cc nL d n q aC a z ci (σ + N) pc' ls (.ref (z + es.length) :: st) fs (es ++ [.inr (cj, f0)]) F) : gN own cc nL d n q aC a z ci σ pc ls st fs es F := by
  subst hp
  intro p l e s m args below meth c D C hz haz H locs lsA hP hS hL
  obtain ⟨hx, hb, hml, hr, hown, hts, hlocks, hin, hK, hO⟩ := id C
  refine va_new hx hb hts hu ty hty hown (hts _ hw) (hts _ hw2) (hts _ hw3) hK hP (nW_D haz) hS (fun x h => Or.inr (by omega)) hcj hfs hc hq hd (fun q' H1 hP1 hD1 hS1 => W.sz (fun hle => ?_))
  have hq' := nW_q hP1 hD1 (by omega)
  subst hq'
  rw [nW_push] at hP1
  have w := kk p l e s m args below meth c D C hz haz H1 locs lsA hP1 hS1 hL
  rw [List.length_append] at w
  exact w
theorem gn_putF {C' : String} {T : u_T} {N index k : Nat} {v : Value} {ty : FieldType} (hd : decode cc pc = .ok (.putfield index, 3)) (hp : pc + 3 = pc') (hw : Cond.fieldLink own index (T k).1 (T k).2.1 (T k).2.2.1 ∈ gtb) (ty0 : Nat → FieldType) (hty : ∀ k, k < N → parseFieldDescriptor (T k).2.2.1 = some (ty0 k)) (hnm : ∀ a, a < N → ∀ b, b < N → a ≠ b → (T a).2.1 ≠ (T b).2.1) (hu : ∀ w ∈ u_ws C' T N, w ∈ gtb) (hcj : vwCl[ci]? = some (C', T, N)) (hk : k < N) (hfin : (T k).2.2.2 = true) (hdecl : (T k).1 = own) (hd2 : parseFieldDescriptor (T k).2.2.1 = some ty) (hn : narrow ty v = v) (hfit : fits ty v = true) (hl : k < fs.length) (kk : gN own cc nL d n q aC a z ci σ pc' ls st (fs.set k v) es F) : gN own cc nL d n q aC a z ci σ pc ls (v :: .ref a :: st) fs es F := by
  subst hp
  intro p l e s m args below meth c D C hz haz H locs lsA hP hS hL
  obtain ⟨hx, hb, hml, hr, hown, hts, hlocks, hin, hK, hO⟩ := id C
  refine va_putF hx hb hts hu ty0 hty hnm hown hK hP (nW_D haz) hS 0 (show (nW a ci fs z es)[0]? = some (a, .inr (ci, fs)) from rfl) hcj k hk (hts _ hw) (fun _ h => h) hfin hin hdecl hd2 hn hfit hl hd (fun H1 locs1 hP1 hD1 hS1 => ?_)
  exact kk p l e s m args below meth c D C hz haz H1 locs1 lsA hP1 hS1 hL
theorem gn_put {C' : String} {T : u_T} {N index k : Nat} {v : Value} {ty : FieldType} (hd : decode cc pc = .ok (.putfield index, 3)) (hp : pc + 3 = pc') (hw : Cond.fieldLink own index (T k).1 (T k).2.1 (T k).2.2.1 ∈ gtb) (ty0 : Nat → FieldType) (hty : ∀ k, k < N → parseFieldDescriptor (T k).2.2.1 = some (ty0 k)) (hnm : ∀ a, a < N → ∀ b, b < N → a ≠ b → (T a).2.1 ≠ (T b).2.1) (hu : ∀ w ∈ u_ws C' T N, w ∈ gtb) (hcj : vwCl[ci]? = some (C', T, N)) (hk : k < N) (hfin : (T k).2.2.2 = false) (hd2 : parseFieldDescriptor (T k).2.2.1 = some ty) (hn : narrow ty v = v) (hfit : fits ty v = true) (hl : k < fs.length) (kk : gN own cc nL d n q aC a z ci σ pc' ls st (fs.set k v) es F) : gN own cc nL d n q aC a z ci σ pc ls (v :: .ref a :: st) fs es F := by
  subst hp
  intro p l e s m args below meth c D C hz haz H locs lsA hP hS hL
  obtain ⟨hx, hb, hml, hr, hown, hts, hlocks, hin, hK, hO⟩ := id C
  refine va_put hx hb hts hu ty0 hty hnm hown hK hP (nW_D haz) hS 0 (show (nW a ci fs z es)[0]? = some (a, .inr (ci, fs)) from rfl) hcj k hk (hts _ hw) (fun _ h => h) hfin hd2 hn hfit hl hd (fun H1 locs1 hP1 hD1 hS1 => ?_)
  exact kk p l e s m args below meth c D C hz haz H1 locs1 lsA hP1 hS1 hL
/-- behind a constructor's call: its cells stand behind ours -/
theorem nW_join {D : va_G} {a ci z cj : Nat} {fs f1 f0 : List Value} {es es' : List va_E} {H H1 : Heap} (haz : a < z) (hP : va_P D vwCl (nW a ci fs z (es ++ [.inr (cj, f0)])) H) (hk : ∀ x : Nat, x < H.size → ¬ nA (z + es.length) (z + (es.length + 1)) x → H1[x]? = H[x]?) (hP1 : va_P D vwCl (nW (z + es.length) cj f1 (z + (es.length + 1)) es') H1) : va_P D vwCl (nW a ci fs z (es ++ [.inr (cj, f1)] ++ es')) H1 := by
  intro k x hx
  rcases nW_get hx with ⟨rfl, rfl⟩ | ⟨j, e, rfl, he, rfl⟩
  · have h0 : (nW a ci fs z (es ++ [.inr (cj, f0)]))[0]? = some (a, .inr (ci, fs)) := rfl
    exact (hP 0 _ h0).kept (hk a (hP 0 _ h0).lt (fun w => by
      rcases w with w | w <;> omega))
  · rcases Nat.lt_or_ge j es.length with q1 | q1
    · rw [List.append_assoc, List.getElem?_append_left q1] at he
      have h0 : (nW a ci fs z (es ++ [.inr (cj, f0)]))[j + 1]? = some (z + j, e) := by
        show (lay z (es ++ [.inr (cj, f0)]))[j]? = _
        rw [lay_get, List.getElem?_append_left q1, he]
        rfl
      exact (hP (j + 1) _ h0).kept (hk (z + j) (hP (j + 1) _ h0).lt (fun w => by
        rcases w with w | w <;> omega))
    · rcases Nat.lt_or_ge j (es.length + 1) with q2 | q2
      · have ej : j = es.length := by omega
        subst ej
        rw [List.getElem?_append_left (by rw [List.length_append]; exact Nat.lt_succ_self _), List.getElem?_append_right (Nat.le_refl _), Nat.sub_self] at he
        cases he
        exact hP1 0 _ rfl
      · rw [List.getElem?_append_right (by rw [List.length_append]; exact q2), List.length_append] at he
        have he2 : es'[j - (es.length + 1)]? = some e := he
        have h0 : (nW (z + es.length) cj f1 (z + (es.length + 1)) es')[j - (es.length + 1) + 1]? = some (z + (es.length + 1) + (j - (es.length + 1)), e) := by
          show (lay _ es')[j - (es.length + 1)]? = _
          rw [lay_get, he2]
          rfl
        rw [show z + j = z + (es.length + 1) + (j - (es.length + 1)) by omega]
        exact hP1 _ _ h0
theorem gn_call {p : Program} {l : Launch} {e : Env} {s : State} {m : MethodId} {args : Array Value} {below : List Frame} {meth : Method} {c : Code} {D : va_G} {H : Heap} {locs : List Loc} {lsA : Array Slot} {st0 : List Value} {ar : Array Value} {G : State → Prop} {cj n' q' : Nat} {f0 f1 : List Value} {es' : List va_E} (hz : s.heap.size = z) (haz : a < z) (hP : va_P D vwCl (nW a ci fs z (es ++ [.inr (cj, f0)])) H) (hS : va_S (nA a z) s.heap H locs) (hH : H.size = z + (es.length + 1)) (hlen : es'.length = n')
    (hr : va_Run p l e (rmN d n q) s m args below meth c H locs (es ++ [(.inr (cj, f0) : va_E)]).length σ n' q' (F0 m pc lsA st0) st (nQm D (z + es.length) (z + (es.length + 1)) cj n' (f1, es') ar) (nA (z + es.length) (z + (es.length + 1))))
    (kk : ∀ (H1 : Heap) (locs1 : List Loc), va_P D vwCl (nW a ci fs z (es ++ [.inr (cj, f1)] ++ es')) H1 → va_S (nA a z) s.heap H1 locs1 → W p l e (rmN d n q) s m args below meth c H1 locs1 (es ++ [(.inr (cj, f1) : va_E)] ++ es').length (σ + q') G (F0 m (pc + 3) lsA st)) : W p l e (rmN d n q) s m args below meth c H locs (es ++ [(.inr (cj, f0) : va_E)]).length σ G (F0 m pc lsA st0) := by
  intro T hT X
  obtain ⟨v, st₀, t, T', L, h0, X', hL2, e1, e2, ⟨⟨hv, hPw⟩, hzz, hk⟩, st9⟩ := hr T hT X
  cases hv
  rw [h0] at hzz hk
  have hA : ∀ x, nA (z + es.length) (z + (es.length + 1)) x → nA a z x := fun x w => by
    rcases w with w | w
    · exact Or.inr (by omega)
    · exact Or.inr (by omega)
  have hS' : va_S (nA a z) s.heap T'.heap (locs ++ L) := ⟨Nat.le_trans hS.1 (by rw [e1]; exact hzz), fun x h1 h2 => by rw [e1, hk x (Nat.lt_of_lt_of_le h1 hS.1) (fun w => h2 (hA x w))]; exact hS.2.1 x h1 h2, fun x hx => by
      rcases List.mem_append.mp hx with g | g
      · exact hS.2.2 x g
      · exact hA _ (hL2 x g)⟩
  have hP2 : va_P D vwCl (nW a ci fs z (es ++ [.inr (cj, f1)] ++ es')) T'.heap := by
    rw [e1]
    exact nW_join haz hP hk hPw
  have hlen2 : (es ++ [(.inr (cj, f1) : va_E)] ++ es').length = (es ++ [(.inr (cj, f0) : va_E)]).length + n' := by
    rw [List.length_append, List.length_append, List.length_append, hlen]
    rfl
  have w := kk T'.heap (locs ++ L) hP2 hS'
  rw [hlen2] at w
  obtain ⟨tt, a1, b1⟩ := w T' rfl X'
  exact ⟨tt, st9 tt a1, b1⟩
end NROWS2
