/-! the law's start: rows over cells that are laid one behind another -/
theorem lay_D {z : Nat} {es : List va_E} : va_D (fun q => z ≤ q) (lay z es) := by
  refine ⟨fun i j p q hp hq hpq => ?_, fun k q hq => ?_⟩
  · rw [lay_get] at hp hq
    obtain ⟨e, he, rfl⟩ := Option.map_eq_some_iff.mp hp
    obtain ⟨e', he', rfl⟩ := Option.map_eq_some_iff.mp hq
    have h : z + i = z + j := hpq
    omega
  · rw [lay_get] at hq
    obtain ⟨e, he, rfl⟩ := Option.map_eq_some_iff.mp hq
    exact Nat.le_add_right _ _
theorem lay_push {z : Nat} {es : List va_E} {e : va_E} : lay z es ++ [(z + es.length, e)] = lay z (es ++ [e]) := by
  rw [lay_app]
  rfl
theorem lay_q {D : va_G} {z q : Nat} {es : List va_E} {e : va_E} {H1 : Heap} (hP : va_P D vwCl (lay z es ++ [(q, e)]) H1) (hD : va_D (fun q => z ≤ q) (lay z es ++ [(q, e)])) (hle : H1.size ≤ z + (es.length + 1)) : q = z + es.length := by
  have hq : (lay z es ++ [(q, e)])[es.length]? = some (q, e) := by
    rw [List.getElem?_append_right (by rw [lay_len]; exact Nat.le_refl _), lay_len, Nat.sub_self]
    rfl
  have hlt : q < H1.size := (hP _ _ hq).lt
  have h : z ≤ q := hD.2 _ _ hq
  rcases Nat.lt_or_ge q (z + es.length) with h3 | h3
  · obtain ⟨e', he'⟩ : ∃ e', es[q - z]? = some e' := ⟨_, List.getElem?_eq_getElem (by omega)⟩
    have hk : (lay z es ++ [(q, e)])[q - z]? = some (z + (q - z), e') := by
      rw [List.getElem?_append_left (by rw [lay_len]; omega), lay_get, he']
      rfl
    have := hD.1 _ _ _ _ hk hq (show z + (q - z) = q by omega)
    omega
  · omega
theorem lay_size {D : va_G} {es : List va_E} {s : State} {H : Heap} {locs : List Loc} (hP : va_P D vwCl (lay s.heap.size es) H) (hS : va_S (fun q => s.heap.size ≤ q) s.heap H locs) (hle : H.size ≤ s.heap.size + es.length) : H.size = s.heap.size + es.length := by
  have h1 := hS.1
  cases hn : es.length with
  | zero => omega
  | succ n =>
    obtain ⟨e', he'⟩ : ∃ e', es[n]? = some e' := ⟨_, List.getElem?_eq_getElem (by omega)⟩
    have hk : (lay s.heap.size es)[n]? = some (s.heap.size + n, e') := by
      rw [lay_get, he']
      rfl
    have h2 : s.heap.size + n < H.size := (hP _ _ hk).lt
    omega
theorem lay_join {D : va_G} {z cj : Nat} {f1 : List Value} {e0 : va_E} {es es' : List va_E} {H H1 : Heap} (hP : va_P D vwCl (lay z (es ++ [e0])) H) (hk : ∀ x : Nat, x < H.size → ¬ nA (z + es.length) (z + (es.length + 1)) x → H1[x]? = H[x]?) (hP1 : va_P D vwCl (nW (z + es.length) cj f1 (z + (es.length + 1)) es') H1) : va_P D vwCl (lay z (es ++ [.inr (cj, f1)] ++ es')) H1 := by
  rw [List.append_assoc, lay_app]
  refine va_P.app (fun k x hx => ?_) hP1
  rw [lay_get] at hx
  obtain ⟨e, he, rfl⟩ := Option.map_eq_some_iff.mp hx
  have hl := (List.getElem?_eq_some_iff.mp he).1
  have h0 : (lay z (es ++ [e0]))[k]? = some (z + k, e) := by
    rw [lay_get, List.getElem?_append_left hl, he]
    rfl
  exact (hP k _ h0).kept (hk (z + k) (hP k _ h0).lt (fun w => by
    rcases w with w | w <;> omega))
def sCx (p : Program) (s : State) (m : MethodId) (args : Array Value) (c : Code) (D : va_G) (aC : Nat → ClassId) : Prop := p.tables.exec = Jvm.exec ∧ c.code = code ∧ c.maxLocals = 7 ∧ s.vm.findClass R_law = some m.cls ∧ (∀ w ∈ gtb, w.before args s = true) ∧ va_K D vwCl (gtys aC) s ∧ nO s
def sJ (p : Program) (l : Launch) (e : Env) (s : State) (m : MethodId) (args : Array Value) (below : List Frame) (meth : Method) (c : Code) (D : va_G) (pc σ : Nat) (ls : List (Option Value)) (st : List Value) (es : List va_E) : Prop :=
  ∀ (H : Heap) (locs : List Loc) (lsA : Array Slot), va_P D vwCl (lay s.heap.size es) H → va_S (fun q => s.heap.size ≤ q) s.heap H locs → gLs id lsA 7 ls → W p l e room_1 s m args below meth c H locs es.length σ (lw_Z below args s) (F0 m pc lsA st)
section SROWS
variable {p : Program} {l : Launch} {e : Env} {s : State} {m : MethodId} {args : Array Value} {below : List Frame} {meth : Method} {c : Code} {D : va_G} {aC : Nat → ClassId} {pc pc' σ : Nat} {ls : List (Option Value)} {st : List Value} {es : List va_E}
theorem sj_dup {v : Value} (C : sCx p s m args c D aC) (hd : decode code pc = .ok (.dup, 1)) (hp : pc + 1 = pc') (hv : v.category = 1) (k : sJ p l e s m args below meth c D pc' σ ls (v :: v :: st) es) : sJ p l e s m args below meth c D pc σ ls (v :: st) es := by
  subst hp
  intro H locs lsA hP hS hL
  exact lv_dup C.1 C.2.1 hd hv (k H locs lsA hP hS hL)
theorem sj_iconst {x : Int} (C : sCx p s m args c D aC) (hd : decode code pc = .ok (.iconst x, 1)) (hp : pc + 1 = pc') (k : sJ p l e s m args below meth c D pc' σ ls (.int (zI x) :: st) es) : sJ p l e s m args below meth c D pc σ ls st es := by
  subst hp
  intro H locs lsA hP hS hL
  exact lv_iconst (v := zI x) C.1 C.2.1 hd rfl (k H locs lsA hP hS hL)
theorem sj_astore_n {i : Fin 4} {x : Nat} (C : sCx p s m args c D aC) (hd : decode code pc = .ok (.astore_n i, 1)) (hp : pc + 1 = pc') (hn : (i : Nat) < 7) (k : sJ p l e s m args below meth c D pc' σ (lst1 i (.ref x) ls) st es) : sJ p l e s m args below meth c D pc σ ls (.ref x :: st) es := by
  subst hp
  intro H locs lsA hP hS hL
  obtain ⟨lv, h1, h2⟩ := hL
  exact lv_astore_n C.1 C.2.1 hd rfl h1 hn rfl (fun lsB hB => k H locs lsB hP hS (gLs.put1 (ad := id) h2 hB))
theorem sj_istore {i : Nat} {x : Int32} (C : sCx p s m args c D aC) (hd : decode code pc = .ok (.istore i, 2)) (hp : pc + 2 = pc') (hn : i < 7) (k : sJ p l e s m args below meth c D pc' σ (lst1 i (.int x) ls) st es) : sJ p l e s m args below meth c D pc σ ls (.int x :: st) es := by
  subst hp
  intro H locs lsA hP hS hL
  obtain ⟨lv, h1, h2⟩ := hL
  exact lv_istore C.1 C.2.1 hd h1 hn rfl (fun lsB hB => k H locs lsB hP hS (gLs.put1 (ad := id) h2 hB))
theorem sj_newa {atype : ArrayType} {ty : FieldType} {k N : Nat} {a0 : vp_A} (C : sCx p s m args c D aC) (hd : decode code pc = .ok (.newarray atype, 2)) (hp : pc + 2 = pc') (hty : newarray.typeOf atype = ty) (hk : (gtys aC)[k]? = some (aC k, ty)) (hw : Cond.arrayClass ty ∈ gtb) (ha : ∀ cA : ClassId, vp_cell cA a0 = arrV cA N (fun _ => defaultValue ty)) (hN : N ≤ 2000) (hb4 : N * componentBytes ty ≤ 536870912) (hc : es.length + 1 ≤ 601024) (hq : σ + N ≤ 7293034) (kk : sJ p l e s m args below meth c D pc' (σ + N) ls (.ref (s.heap.size + es.length) :: st) (es ++ [.inl (aC k, a0)])) : sJ p l e s m args below meth c D pc σ ls (.int (zI (N : Int)) :: st) es := by
  subst hp
  intro H locs lsA hP hS hL
  obtain ⟨hx, hb, hml, hown, hts, hK, hO⟩ := id C
  refine va_newa hx hb (by rw [hty]; exact hts _ hw) hty hK hP lay_D hS (fun x h => h) (n := zI (N : Int)) ha ?_ ?_ hb4 hc hq hd (fun q' cA H1 hK1 hP1 hD1 hS1 => W.sz (fun hle => ?_))
  · intro h
    have := (zI_lt (a := (N : Int)) (b := 0) (by omega) (by omega)).mp h
    omega
  · rw [zI_clamp (by omega)]
    exact Int.toNat_natCast N
  · have hcA : cA = aC k := va_RA_u (hK1.2 5 _ gtys_len).2 (hK.2 k _ hk).2
    subst hcA
    have hq' := lay_q hP1 hD1 (by omega)
    subst hq'
    rw [lay_push] at hP1
    have w := kk H1 locs lsA hP1 hS1 hL
    rw [List.length_append] at w
    exact w
theorem sj_new {C' : String} {T : u_T} {N cj index : Nat} {f0 : List Value} (C : sCx p s m args c D aC) (hd : decode code pc = .ok (.new index, 3)) (hp : pc + 3 = pc') (hw : Cond.classLink R_law index C' ∈ gtb) (hw2 : Cond.instantiable C' N ∈ gtb) (hw3 : Cond.initialized C' ∈ gtb) (ty : Nat → FieldType) (hty : ∀ k, k < N → parseFieldDescriptor (T k).2.2.1 = some (ty k)) (hu : ∀ w ∈ u_ws C' T N, w ∈ gtb) (hcj : vwCl[cj]? = some (C', T, N)) (hfs : ∀ j, j < N → defaultValue (ty j) = vp_V f0 j) (hc : es.length + 1 ≤ 601024) (hq : σ + N ≤ 7293034) (kk : sJ p l e s m args below meth c D pc' (σ + N) ls (.ref (s.heap.size + es.length) :: st) (es ++ [.inr (cj, f0)])) : sJ p l e s m args below meth c D pc σ ls st es := by
  subst hp
  intro H locs lsA hP hS hL
  obtain ⟨hx, hb, hml, hown, hts, hK, hO⟩ := id C
  refine va_new hx hb hts hu ty hty hown (hts _ hw) (hts _ hw2) (hts _ hw3) hK hP lay_D hS (fun x h => h) hcj hfs hc hq hd (fun q' H1 hP1 hD1 hS1 => W.sz (fun hle => ?_))
  have hq' := lay_q hP1 hD1 (by omega)
  subst hq'
  rw [lay_push] at hP1
  have w := kk H1 locs lsA hP1 hS1 hL
  rw [List.length_append] at w
  exact w
theorem sj_init {index maxL d' cj n' q' : Nat} {y : MethodName} {bytes : ByteArray} {f0 : List Value} {F' : (Nat → ClassId) → Nat → List Value × List va_E} (C : sCx p s m args c D aC) (hS' : nSp d' y bytes maxL cj n' q' f0 F') (hd : decode code pc = .ok (.invokespecial index, 3)) (hp : pc + 3 = pc') (hyn : y.name = "<init>") (hok : gOkM y 0) (hw1 : Cond.methodLink R_law index y ∈ gtb) (hw2 : Cond.instanceMethod y ∈ gtb) (hw4 : Cond.initialized y.cls ∈ gtb) (hw5 : Cond.code y bytes maxL none ∈ gtb) (hmx : maxL ≤ 40) (hdl : d' ≤ 16) (hcat : (st.map fun v => v.category).sum ≤ 8) (hlen : (F' aC (s.heap.size + (es.length + 1))).2.length = n') (hn : es.length + 1 + n' ≤ 601024) (hq : σ + q' ≤ 7293034) (kk : sJ p l e s m args below meth c D pc' (σ + q') ls st (es ++ [.inr (cj, (F' aC (s.heap.size + (es.length + 1))).1)] ++ (F' aC (s.heap.size + (es.length + 1))).2)) : sJ p l e s m args below meth c D pc σ ls (.ref (s.heap.size + es.length) :: st) (es ++ [.inr (cj, f0)]) := by
  subst hp
  intro H locs lsA hP hS hL
  refine W.sz (fun hle => ?_)
  obtain ⟨hx, hb, hml, hown, hts, hK, hO⟩ := id C
  have hH : H.size = s.heap.size + (es.length + 1) := by
    have := lay_size hP hS hle
    rw [List.length_append] at this
    exact this
  have hPc : va_P D vwCl [(s.heap.size + es.length, .inr (cj, f0))] H := fun k x hx => by
    have h0 : k < 1 := (List.getElem?_eq_some_iff.mp hx).1
    rw [show k = 0 by omega] at hx
    cases hx
    refine hP es.length _ ?_
    rw [lay_get, List.getElem?_append_right (Nat.le_refl _), Nat.sub_self]
    rfl
  have run := va_runI (p := p) (l := l) (e := e) (R := room_1) (below := below) (meth := meth) (As := []) (rest := st) (b := s.heap.size + es.length) (H := H) (locs := locs) (cells := (es ++ [(.inr (cj, f0) : va_E)]).length) (slots := σ) (mc := n') (ms := q') (n := 0) (g := F0 m pc lsA (.ref (s.heap.size + es.length) :: st)) ⟨hx, hb, hml, hown, hts⟩ (hS' l D aC (s.heap.size + es.length) (s.heap.size + (es.length + 1)) (by omega))
    ⟨⟨rfl, rfl, by show d' + 1 ≤ 2048; omega, by show 8 + (maxL + 11) + 64 * d' ≤ 84000; omega, fun w hw a' U hW => gtb_warm hts hW w (gtb_ws hw5 w hw) a', List.mem_cons_self, hts _ hw5, hts _ hw4, ⟨hok.1, hok.2.1⟩, gOkM_len hok, hts _ hw1⟩, hyn, hts _ hw2⟩
    ⟨nPre_blind, fun U hU hW => ⟨rfl, by rw [hU]; exact hH, by rw [hU]; exact hPc, va_K.moved hW.alike hK, nO.moved hW.alike hO⟩⟩ rfl rfl hL.size rfl (lv_room hcat) hd ⟨by rw [List.length_append]; exact hn, hq⟩
  intro T hT X
  obtain ⟨v, st₀, t, T', L, h0, X', hL2, e1, e2, ⟨⟨hv, hPw⟩, hzz, hk⟩, st9⟩ := run T hT X
  cases hv
  rw [h0] at hzz hk
  have hA : ∀ x, nA (s.heap.size + es.length) (s.heap.size + (es.length + 1)) x → s.heap.size ≤ x := fun x w => by
    rcases w with w | w <;> omega
  have hS2 : va_S (fun q => s.heap.size ≤ q) s.heap T'.heap (locs ++ L) := ⟨Nat.le_trans hS.1 (by rw [e1]; exact hzz), fun x h1 h2 => by rw [e1, hk x (Nat.lt_of_lt_of_le h1 hS.1) (fun w => h2 (hA x w))]; exact hS.2.1 x h1 h2, fun x hx => by
      rcases List.mem_append.mp hx with g | g
      · exact hS.2.2 x g
      · exact hA _ (hL2 x g)⟩
  have hP2 := lay_join hP hk hPw
  have hlen2 : (es ++ [(.inr (cj, (F' aC (s.heap.size + (es.length + 1))).1) : va_E)] ++ (F' aC (s.heap.size + (es.length + 1))).2).length = (es ++ [(.inr (cj, f0) : va_E)]).length + n' := by
    rw [List.length_append, List.length_append, List.length_append, hlen]
    rfl
  have w := kk T'.heap (locs ++ L) lsA (by rw [e1]; exact hP2) hS2 hL
  rw [hlen2] at w
  obtain ⟨tt, a1, b1⟩ := w T' rfl X'
  exact ⟨tt, st9 tt a1, b1⟩
end SROWS
