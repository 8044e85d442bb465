/-! constructors: the call of another, loops, arrays of references -/
section NROWS3
variable {own : String} {cc : ByteArray} {nL d n q : Nat} {aC : Nat → ClassId} {a z ci σ pc pc' : Nat} {ls : List (Option Value)} {st : List Value} {fs : List Value} {es : List va_E} {F : List Value × List va_E}
theorem gn_initN {index maxL d' cj n' q' : Nat} {y : MethodName} {bytes : ByteArray} {host : String} {f0 : List Value} {F' : (Nat → ClassId) → Nat → List Value × List va_E} (hS' : nSp d' y bytes maxL cj n' q' f0 F') (hd : decode cc pc = .ok (.invokespecial index, 3)) (hp : pc + 3 = pc') (hyn : y.name = "<init>") (hok : gOkM y 0) (hw1 : Cond.methodLinkNest own index y host ∈ gtb) (hw2 : Cond.instanceMethod y ∈ gtb) (hw4 : Cond.initialized y.cls ∈ gtb) (hw5 : Cond.code y bytes maxL none ∈ gtb) (hmx : maxL ≤ 40) (hdl : d' < d) (hcat : (st.map fun v => v.category).sum ≤ 8) (hlen : (F' aC (z + (es.length + 1))).2.length = n') (hn : es.length + 1 + n' ≤ n) (hq : σ + q' ≤ q) (kk : gN own cc nL d n q aC a z ci (σ + q') pc' ls st fs (es ++ [.inr (cj, (F' aC (z + (es.length + 1))).1)] ++ (F' aC (z + (es.length + 1))).2) F) : gN own cc nL d n q aC a z ci σ pc ls (.ref (z + es.length) :: st) fs (es ++ [.inr (cj, f0)]) F := by
  subst hp
  intro p l e s m args below meth c D C hz haz H locs lsA hP hS hL
  refine W.sz (fun hle => ?_)
  obtain ⟨hx, hb, hml, hr, hown, hts, hlocks, hin, hK, hO⟩ := id C
  have hH : H.size = z + (es.length + 1) := by
    have := nW_size hP hz hS hle
    rw [List.length_append] at this
    exact this
  have hPc : va_P D vwCl [(z + es.length, .inr (cj, f0))] H := fun k x hx => by
    have h0 : k < 1 := (List.getElem?_eq_some_iff.mp hx).1
    rw [show k = 0 by omega] at hx
    cases hx
    refine hP (es.length + 1) _ ?_
    show (lay z (es ++ [.inr (cj, f0)]))[es.length]? = _
    rw [lay_get, List.getElem?_append_right (Nat.le_refl _), Nat.sub_self]
    rfl
  have run := va_runIN (p := p) (l := l) (e := e) (R := rmN d n q) (below := below) (meth := meth) (As := []) (rest := st) (b := z + es.length) (H := H) (locs := locs) (cells := (es ++ [(.inr (cj, f0) : va_E)]).length) (slots := σ) (mc := n') (ms := q') (n := 0) (host := host) (g := F0 m pc lsA (.ref (z + es.length) :: st)) ⟨hx, hb, hml, hown, hts⟩ (hS' l D aC (z + es.length) (z + (es.length + 1)) (by omega))
    ⟨⟨⟨rfl, rfl, hdl, by show 8 + (maxL + 11) + 64 * d' ≤ 64 * d; omega, fun w hw a' U hW => gtb_warm hts hW w (gtb_ws hw5 w hw) a', List.mem_cons_self⟩, hts _ hw5, hts _ hw4, ⟨hok.1, hok.2.1⟩, gOkM_len hok, hts _ hw1⟩, hyn, hts _ hw2⟩
    ⟨nPre_blind, fun U hU hW => ⟨rfl, by rw [hU]; exact hH, by rw [hU]; exact hPc, va_K.moved hW.alike hK, nO.moved hW.alike hO⟩⟩ rfl rfl hL.size rfl (lv_room hcat) hd ⟨by rw [List.length_append]; exact hn, hq⟩
  exact gn_call hz haz hP hS hH hlen run (fun H1 locs1 hP1 hS1 => kk p l e s m args below meth c D C hz haz H1 locs1 lsA hP1 hS1 hL)
theorem gn_initI {index maxL d' cj n' q' : Nat} {y : MethodName} {bytes : ByteArray} {f0 : List Value} {F' : (Nat → ClassId) → Nat → List Value × List va_E} (hS' : nSp d' y bytes maxL cj n' q' f0 F') (hd : decode cc pc = .ok (.invokespecial index, 3)) (hp : pc + 3 = pc') (hyn : y.name = "<init>") (hok : gOkM y 0) (hw1 : Cond.methodLink own index y ∈ gtb) (hw2 : Cond.instanceMethod y ∈ gtb) (hw4 : Cond.initialized y.cls ∈ gtb) (hw5 : Cond.code y bytes maxL none ∈ gtb) (hmx : maxL ≤ 40) (hdl : d' < d) (hcat : (st.map fun v => v.category).sum ≤ 8) (hlen : (F' aC (z + (es.length + 1))).2.length = n') (hn : es.length + 1 + n' ≤ n) (hq : σ + q' ≤ q) (kk : gN own cc nL d n q aC a z ci (σ + q') pc' ls st fs (es ++ [.inr (cj, (F' aC (z + (es.length + 1))).1)] ++ (F' aC (z + (es.length + 1))).2) F) : gN own cc nL d n q aC a z ci σ pc ls (.ref (z + es.length) :: st) fs (es ++ [.inr (cj, f0)]) F := by
  subst hp
  intro p l e s m args below meth c D C hz haz H locs lsA hP hS hL
  refine W.sz (fun hle => ?_)
  obtain ⟨hx, hb, hml, hr, hown, hts, hlocks, hin, hK, hO⟩ := id C
  have hH : H.size = z + (es.length + 1) := by
    have := nW_size hP hz hS hle
    rw [List.length_append] at this
    exact this
  have hPc : va_P D vwCl [(z + es.length, .inr (cj, f0))] H := fun k x hx => by
    have h0 : k < 1 := (List.getElem?_eq_some_iff.mp hx).1
    rw [show k = 0 by omega] at hx
    cases hx
    refine hP (es.length + 1) _ ?_
    show (lay z (es ++ [.inr (cj, f0)]))[es.length]? = _
    rw [lay_get, List.getElem?_append_right (Nat.le_refl _), Nat.sub_self]
    rfl
  have run := va_runI (p := p) (l := l) (e := e) (R := rmN d n q) (below := below) (meth := meth) (As := []) (rest := st) (b := z + es.length) (H := H) (locs := locs) (cells := (es ++ [(.inr (cj, f0) : va_E)]).length) (slots := σ) (mc := n') (ms := q') (n := 0) (g := F0 m pc lsA (.ref (z + es.length) :: st)) ⟨hx, hb, hml, hown, hts⟩ (hS' l D aC (z + es.length) (z + (es.length + 1)) (by omega))
    ⟨⟨rfl, rfl, hdl, by show 8 + (maxL + 11) + 64 * d' ≤ 64 * d; omega, fun w hw a' U hW => gtb_warm hts hW w (gtb_ws hw5 w hw) a', List.mem_cons_self, hts _ hw5, hts _ hw4, ⟨hok.1, hok.2.1⟩, gOkM_len hok, hts _ hw1⟩, hyn, hts _ hw2⟩
    ⟨nPre_blind, fun U hU hW => ⟨rfl, by rw [hU]; exact hH, by rw [hU]; exact hPc, va_K.moved hW.alike hK, nO.moved hW.alike hO⟩⟩ rfl rfl hL.size rfl (lv_room hcat) hd ⟨by rw [List.length_append]; exact hn, hq⟩
  exact gn_call hz haz hP hS hH hlen run (fun H1 locs1 hP1 hS1 => kk p l e s m args below meth c D C hz haz H1 locs1 lsA hP1 hS1 hL)
theorem gn_wk {ls' : List (Option Value)} (k : gN own cc nL d n q aC a z ci σ pc ls' st fs es F) (hl : lle ls' ls) : gN own cc nL d n q aC a z ci σ pc ls st fs es F := by
  intro p l e s m args below meth c D C hz haz H locs lsA hP hS hL
  obtain ⟨lv, h1, h2⟩ := hL
  exact k p l e s m args below meth c D C hz haz H locs lsA hP hS ⟨lv, h1, fun i v q => h2 i v (lle_at hl i v q)⟩
theorem gn_iload1 {x : Int} (hd : decode cc pc = .ok (.iload_n 1, 1)) (hp : pc + 1 = pc') (hl : ls[1]? = some (some (.int (zI x)))) (k : gN own cc nL d n q aC a z ci σ pc' ls (.int (zI x) :: st) fs es F) : gN own cc nL d n q aC a z ci σ pc ls st fs es F := by
  subst hp
  intro p l e s m args below meth c D C hz haz H locs lsA hP hS hL
  obtain ⟨hx, hb, hml, hr, hown, hts, hlocks, hin, hK, hO⟩ := id C
  exact lv_iload_n hx hb hd rfl (hL.at hl) (k p l e s m args below meth c D C hz haz H locs lsA hP hS hL)
theorem gn_istore1 {x : Int} (hd : decode cc pc = .ok (.istore_n 1, 1)) (hp : pc + 1 = pc') (hn1 : 1 < nL) (k : gN own cc nL d n q aC a z ci σ pc' (lst1 1 (.int (zI x)) ls) st fs es F) : gN own cc nL d n q aC a z ci σ pc ls (.int (zI x) :: st) fs es F := by
  subst hp
  intro p l e s m args below meth c D C hz haz H locs lsA hP hS hL
  obtain ⟨hx, hb, hml, hr, hown, hts, hlocks, hin, hK, hO⟩ := id C
  obtain ⟨lv, h1, h2⟩ := hL
  exact lv_istore_n hx hb hd rfl h1 hn1 rfl (fun lsB hB => k p l e s m args below meth c D C hz haz H locs lsB hP hS (gLs.put1 (ad := id) h2 hB))
theorem gn_iinc1 {x w : Int} (hd : decode cc pc = .ok (.iinc 1 w, 3)) (hp : pc + 3 = pc') (hl : ls[1]? = some (some (.int (zI x)))) (hn1 : 1 < nL) (k : gN own cc nL d n q aC a z ci σ pc' (lst1 1 (.int (zI (x + w))) ls) st fs es F) : gN own cc nL d n q aC a z ci σ pc ls st fs es F := by
  subst hp
  intro p l e s m args below meth c D C hz haz H locs lsA hP hS hL
  obtain ⟨hx, hb, hml, hr, hown, hts, hlocks, hin, hK, hO⟩ := id C
  obtain ⟨lv, h1, h2⟩ := hL
  obtain ⟨i0, hk⟩ := List.mem_iff_getElem?.mp (h2 1 _ hl)
  exact lv_iinc (v := zI (x + w)) (x := zI x) hx hb hd h1 hk (zI_add x w) hn1 rfl (fun lsB hB => k p l e s m args below meth c D C hz haz H locs lsB hP hS (gLs.put1 (ad := id) h2 hB))
theorem gn_goto {off : Int} (hd : decode cc pc = .ok (.goto off, 3)) (hp : (pc : Int) + off = (pc' : Int)) (k : gN own cc nL d n q aC a z ci σ pc' ls st fs es F) : gN own cc nL d n q aC a z ci σ pc ls st fs es F := by
  intro p l e s m args below meth c D C hz haz H locs lsA hP hS hL
  obtain ⟨hx, hb, hml, hr, hown, hts, hlocks, hin, hK, hO⟩ := id C
  exact lv_goto hx hb hd hp (k p l e s m args below meth c D C hz haz H locs lsA hP hS hL)
theorem gn_icmp_ge {off : Int} {x y : Int} {tgt : Nat} (hd : decode cc pc = .ok (.if_icmp .ge off, 3)) (ht : (pc : Int) + off = (tgt : Int)) (hp : pc + 3 = pc') (hx2 : -2147483648 ≤ x ∧ x ≤ 2147483647) (hy2 : -2147483648 ≤ y ∧ y ≤ 2147483647) (kt : x ≥ y → gN own cc nL d n q aC a z ci σ tgt ls st fs es F) (kf : x < y → gN own cc nL d n q aC a z ci σ pc' ls st fs es F) : gN own cc nL d n q aC a z ci σ pc ls (.int (zI y) :: .int (zI x) :: st) fs es F := by
  subst hp
  intro p l e s m args below meth c D C hz haz H locs lsA hP hS hL
  obtain ⟨hx, hb, hml, hr, hown, hts, hlocks, hin, hK, hO⟩ := id C
  refine lv_icmp_ge (x := zI x) (y := zI y) hx hb hd ht (fun w => kt ?_ p l e s m args below meth c D C hz haz H locs lsA hP hS hL) (fun w => kf ?_ p l e s m args below meth c D C hz haz H locs lsA hP hS hL)
  · first | exact (zI_le hy2 hx2).mp w | exact Int.not_lt.mp (fun v => w ((zI_lt hx2 hy2).mpr v))
  · first | exact (zI_lt hx2 hy2).mp w | exact Int.not_le.mp (fun v => w ((zI_le hy2 hx2).mpr v)) | (have := (zI_le hy2 hx2); have w2 := zI_lt hx2 hy2; exact Int.not_le.mp (fun v => absurd (this.mpr v) w))
theorem gn_get0 {C' : String} {T : u_T} {N index k : Nat} {x : Nat} (hd : decode cc pc = .ok (.getfield index, 3)) (hp : pc + 3 = pc') (hw : Cond.fieldLink own index (T k).1 (T k).2.1 (T k).2.2.1 ∈ gtb) (hu : ∀ w ∈ u_ws C' T N, w ∈ gtb) (hcj : vwCl[ci]? = some (C', T, N)) (hk : k < N) (hv : fs[k]? = some (.ref x)) (kk : gN own cc nL d n q aC a z ci σ pc' ls (.ref x :: st) fs es F) : gN own cc nL d n q aC a z ci σ pc ls (.ref a :: st) fs es F := by
  subst hp
  intro p l e s m args below meth c D C hz haz H locs lsA hP hS hL
  obtain ⟨hx, hb, hml, hr, hown, hts, hlocks, hin, hK, hO⟩ := id C
  refine va_get hx hb hts hu hown hK hP 0 (show (nW a ci fs z es)[0]? = some (a, .inr (ci, fs)) from rfl) hcj k hk (hts _ hw) (fun _ h => h) hv hd ?_
  exact kk p l e s m args below meth c D C hz haz H locs lsA hP hS hL
theorem gn_newq {N index : Nat} (hd : decode cc pc = .ok (.anewarray index, 3)) (hp : pc + 3 = pc') (hw : Cond.classLink own index RX3 ∈ gtb) (hk : (gtys aC)[3]? = some (aC 3, .object RX3)) (hN : N ≤ 2000) (hc : es.length + 1 ≤ n) (hq : σ + N ≤ q) (kk : gN own cc nL d n q aC a z ci (σ + N) pc' ls (.ref (z + es.length) :: st) fs (es ++ [.inl (aC 3, N, .inr (.inr (.inr (.inr (fun _ => none)))))]) F) : gN own cc nL d n q aC a z ci σ pc ls (.int (zI (N : Int)) :: st) fs es F := by
  subst hp
  intro p l e s m args below meth c D C hz haz H locs lsA hP hS hL
  obtain ⟨hx, hb, hml, hr, hown, hts, hlocks, hin, hK, hO⟩ := id C
  refine va_newq (C := RX3) hx hb hown (hts _ hw) hO.2 hK hP (nW_D haz) hS (fun x h => Or.inr (by omega)) (n := zI (N : Int)) (N' := N) ?_ ?_ (by omega) hc hq hd (fun q' cA H1 hK1 hP1 hD1 hS1 => W.sz (fun hle => ?_))
  · intro h
    have := (zI_lt (a := (N : Int)) (b := 0) (by omega) (by omega)).mp h
    omega
  · rw [zI_clamp (by omega)]
    exact Int.toNat_natCast N
  · have hcA : cA = aC 3 := va_RA_u (hK1.2 5 _ gtys_len).2 (hK.2 3 _ hk).2
    subst hcA
    have hq' := nW_q hP1 hD1 (by omega)
    subst hq'
    rw [nW_push] at hP1
    have w := kk p l e s m args below meth c D C hz haz H1 locs lsA hP1 hS1 hL
    rw [List.length_append] at w
    exact w
theorem nW_set {k : Nat} {e : va_E} : (nW a ci fs z es).set (k + 1) (z + k, e) = nW a ci fs z (es.set k e) := by
  show (a, _) :: (lay z es).set k (z + k, e) = _
  rw [lay_set]
  rfl
theorem gn_aast {j i N k : Nat} {f : Nat → Option Nat} {vs : List Value} {x : Int} (hd : decode cc pc = .ok (.aastore, 1)) (hp : pc + 1 = pc') (hk3 : (gtys aC)[3]? = some (aC 3, .object RX3)) (hj : es[j]? = some (.inl (aC 3, N, .inr (.inr (.inr (.inr f)))))) (hi : es[i]? = some (.inr (2, vs))) (hx : x = (k : Int)) (hkN : k < N) (hN : N ≤ 2000) (kk : gN own cc nL d n q aC a z ci σ pc' ls st fs (es.set j (.inl (aC 3, N, .inr (.inr (.inr (.inr (va_up f k (some (z + i)))))))) ) F) : gN own cc nL d n q aC a z ci σ pc ls (.ref (z + i) :: .int (zI x) :: .ref (z + j) :: st) fs es F := by
  subst hp
  subst hx
  intro p l e s m args below meth c D C hz haz H locs lsA hP hS hL
  obtain ⟨hx, hb, hml, hr, hown, hts, hlocks, hin, hK, hO⟩ := id C
  have hj2 : (nW a ci fs z es)[j + 1]? = some (z + j, .inl (aC 3, N, .inr (.inr (.inr (.inr f))))) := by
    show (lay z es)[j]? = _
    rw [lay_get, hj]
    rfl
  have hi2 : (nW a ci fs z es)[i + 1]? = some (z + i, .inr (2, vs)) := by
    show (lay z es)[i]? = _
    rw [lay_get, hi]
    rfl
  refine va_astq hx hb hK hP (nW_D haz) hS (j + 1) 3 (i + 1) 2 (r := (RX3, TX3, 6)) hj2 hk3 hi2 rfl (i := zI (k : Int)) (zI_in (by omega) (by omega)) hd (fun H1 locs1 hP1 hD1 hS1 => ?_)
  rw [nW_set, zI_clamp (by omega), show ((k : Int)).toNat = k from Int.toNat_natCast k] at hP1
  have w := kk p l e s m args below meth c D C hz haz H1 locs1 lsA hP1 hS1 hL
  rw [List.length_set] at w
  exact w
end NROWS3
