/-! the law's own frame: a judgement over the same pure heap, with the script -/
def lCx (L : Nat) (xs : Nat → Int32) (p : Program) (l : Launch) (s : State) (m : MethodId) (args : Array Value) (meth : Method) (c : Code) (D : va_G) (aC : Nat → ClassId) (ad : Nat → Nat) : Prop := gCx R_law code 7 ret p s m args meth c D aC ad ∧ (args = #[.ref (ad 2000)] ∧ va_X (ad 2000) L xs s s.heap ∧ ad 2000 < s.heap.size ∧ (∀ i, i < NN → s.heap.size ≤ ad i)) ∧ L ≤ 3072 ∧ l.flags = flags0 ∧ (∀ w ∈ lw_tbl, w.before args s = true) ∧ (Jvm.Cond.and given_1 narrow_1).before args s = true
def gK (L : Nat) (xs : Nat → Int32) (κ σ pc : Nat) (ls : List (Option Value)) (st : List Value) (h : gH) : Prop :=
  ∀ (p : Program) (l : Launch) (e : Env) (s : State) (m : MethodId) (args : Array Value) (below : List Frame) (meth : Method) (c : Code) (D : va_G) (aC : Nat → ClassId) (ad : Nat → Nat), lCx L xs p l s m args meth c D aC ad →
  ∀ (H : Heap) (locs : List Loc) (lsA : Array Slot), va_P D vwCl (gw aC ad h) H → va_S (gA ad s.heap.size) s.heap H locs → gLs ad lsA 7 ls →
  W p l e room_1 s m args below meth c H locs κ σ (lw_Z below args s) (F0 m pc lsA (st.map (gv ad)))
theorem lA {ad : Nat → Nat} {sz q : Nat} (h : ∀ i, i < NN → sz ≤ ad i) (a : gA ad sz q) : sz ≤ q := by
  rcases a with ⟨i, hi, rfl⟩ | a
  · exact h i hi
  · exact a
theorem gk_widen {L : Nat} {xs : Nat → Int32} {κ σ κ' σ' pc : Nat} {ls : List (Option Value)} {st : List Value} {h : gH} (h1 : κ ≤ κ') (h2 : σ ≤ σ') (k : gK L xs κ' σ' pc ls st h) : gK L xs κ σ pc ls st h := by
  intro p l e s m args below meth c D aC ad C H locs lsA hP hS hL
  exact W.widen h1 h2 (k p l e s m args below meth c D aC ad C H locs lsA hP hS hL)
theorem gk_wk {L : Nat} {xs : Nat → Int32} {κ σ pc : Nat} {ls ls' : List (Option Value)} {st : List Value} {h : gH} (k : gK L xs κ σ pc ls' st h) (hl : lle ls' ls) : gK L xs κ σ pc ls st h := by
  intro p l e s m args below meth c D aC ad C H locs lsA hP hS hL
  obtain ⟨lv, h1, h2⟩ := hL
  exact k p l e s m args below meth c D aC ad C H locs lsA hP hS ⟨lv, h1, fun i v q => h2 i v (lle_at hl i v q)⟩
def xZ (xs : Nat → Int32) (j : Nat) : Int := (xs j).toInt
theorem xZ_in (xs : Nat → Int32) (j : Nat) : inB (xZ xs j) := by
  have h1 := Int32.minValue_le_toInt (xs j)
  have h2 := Int32.toInt_le (xs j)
  have e1 : Int32.minValue.toInt = -2147483648 := by decide
  have e2 : Int32.maxValue.toInt = 2147483647 := by decide
  unfold inB xZ
  omega
section KROWS
variable {L : Nat} {xs : Nat → Int32} {κ σ pc pc' : Nat} {ls : List (Option Value)} {st : List Value} {h : gH}
theorem gk_sld {z : Int} {j : Nat} (hz : z = (j : Int)) (hj : j < L) (hL3 : L ≤ 3072) (hd : decode code pc = .ok (.iaload, 1)) (hp : pc + 1 = pc') (k : gK L xs κ σ pc' ls (.int (zI (xZ xs j)) :: st) h) : gK L xs κ σ pc ls (.int (zI z) :: .ref 2000 :: st) h := by
  subst hp
  subst hz
  intro p l e s m args below meth c D aC ad C H locs lsA hP hS hL
  obtain ⟨hx, hb, hml, hr, hown, hts, hlocks, hK, hinj, hX⟩ := id C.1
  obtain ⟨a1, a2, a3, a4⟩ := id C.2.1
  refine va_sld hx hb a2 a3 (fun q => absurd (lA a4 q) (by omega)) hS (i := zI (j : Int)) (zI_in (by omega) (by omega)) hd ?_
  rw [zI_clamp (by omega), show ((j : Int)).toNat = j from Int.toNat_natCast j, ← zI_of (xs j)]
  exact k p l e s m args below meth c D aC ad C H locs lsA hP hS hL
theorem gk_slen (hd : decode code pc = .ok (.arraylength, 1)) (hp : pc + 1 = pc') (k : gK L xs κ σ pc' ls (.int (zI (L : Int)) :: st) h) : gK L xs κ σ pc ls (.ref 2000 :: st) h := by
  subst hp
  intro p l e s m args below meth c D aC ad C H locs lsA hP hS hL
  obtain ⟨hx, hb, hml, hr, hown, hts, hlocks, hK, hinj, hX⟩ := id C.1
  obtain ⟨a1, a2, a3, a4⟩ := id C.2.1
  refine va_slen hx hb a2 a3 (fun q => absurd (lA a4 q) (by omega)) hS hd ?_
  exact k p l e s m args below meth c D aC ad C H locs lsA hP hS hL
/-- behind a call's run: on with the law -/
theorem gk_cont {p : Program} {l : Launch} {e : Env} {s : State} {m : MethodId} {args : Array Value} {below : List Frame} {meth : Method} {c : Code} {D : va_G} {aC : Nat → ClassId} {ad : Nat → Nat} {H : Heap} {locs : List Loc} {lsA : Array Slot} {st0 : List Value} {rest : List Value} {a : Array Value} {Q' : Option Value → gH → Prop} {G : State → Prop}
    (hr : va_Run p l e room_1 s m args below meth c H locs κ σ 0 0 (F0 m pc lsA st0) (rest.map (gv ad)) (gQm D aC ad (gA ad H.size) Q' a) (gA ad H.size)) (hS : va_S (gA ad s.heap.size) s.heap H locs)
    (kk : ∀ (v : Option Value) (h' : gH), Q' v h' → ∀ (H1 : Heap) (locs1 : List Loc), va_P D vwCl (gw aC ad h') H1 → va_S (gA ad s.heap.size) s.heap H1 locs1 → W p l e room_1 s m args below meth c H1 locs1 κ σ G (F0 m (pc + 3) lsA ((v.toList ++ rest).map (gv ad)))) : W p l e room_1 s m args below meth c H locs κ σ G (F0 m pc lsA st0) := by
  intro T hT X
  obtain ⟨v, st₀, t, T', L, h0, X', hL2, e1, e2, ⟨⟨v', h', hv, hq', hPw⟩, hz, hk⟩, st9⟩ := hr T hT X
  have hv' : v = v'.map (gv ad) := by cases hv; rfl
  subst hv'
  rw [h0] at hz hk
  have hA := gA_mono (ad := ad) hS.1
  have hS' : va_S (gA ad s.heap.size) s.heap T'.heap (locs ++ L) := ⟨Nat.le_trans hS.1 (by rw [e1]; exact hz), fun q h1 h2 => by rw [e1, hk q (Nat.lt_of_lt_of_le h1 hS.1) (fun z => h2 (hA q z))]; exact hS.2.1 q h1 h2, fun q hq => by
      rcases List.mem_append.mp hq with g | g
      · exact hS.2.2 q g
      · exact hA _ (hL2 q g)⟩
  obtain ⟨tt, a1, b1⟩ := kk v' h' hq' T'.heap (locs ++ L) (by rw [e1]; exact hPw) hS' T' rfl X'
  rw [gv_maps] at a1
  exact ⟨tt, st9 tt a1, b1⟩
theorem gk_callV {C : String} {index maxL d' ci o : Nat} {y : MethodName} {bytes : ByteArray} {ret' : Option FieldType} {As rest : List Value} {ks : List (Nat × Nat)} {Q' : Option Value → gH → Prop} (hS : gSp d' y bytes maxL ret' (.ref o :: As) h Q') (hok : gOkM y As.length) (hw1 : Cond.methodLink R_law index y ∈ gtb) (hw2 : Cond.instanceMethod y ∈ gtb) (hw3 : Cond.selects C y y ∈ gtb) (hw4 : Cond.initialized y.cls ∈ gtb) (hw5 : Cond.code y bytes maxL ret' ∈ gtb) (hmx : maxL ≤ 40) (hc : (vwCl[ci]?).map (fun q => q.1) = some C) (hs : shp o = .inl (ci, ks)) (hdl : d' ≤ 16) (hκ : κ ≤ 601024) (hσ : σ ≤ 7293034) (hst : st = As.reverse ++ .ref o :: rest) (hcat : (rest.map fun v => v.category).sum ≤ 8) (hd : decode code pc = .ok (.invokevirtual index, 3)) (hp : pc + 3 = pc')
    (kk : ∀ (v : Option Value) (h' : gH), Q' v h' → gK L xs κ σ pc' ls (v.toList ++ rest) h') : gK L xs κ σ pc ls st h := by
  subst hp; subst hst
  intro p l e s m args below meth c D aC ad C0 H locs lsA hP hS2 hL
  obtain ⟨hx, hb, hml, hr, hown, hts, hlocks, hK, hinj, hX⟩ := id C0.1
  obtain ⟨q, hq, rfl⟩ := Option.map_eq_some_iff.mp hc
  have he : (gw aC ad h)[o]? = some (ad o, .inr (ci, (gfs (h.1 o) (h.2.1 o) h.2.2 0 ks).map (gv ad))) := by rw [gw_at (shp_ltL hs), gcell_L hs]
  have run := va_runV (p := p) (l := l) (e := e) (R := room_1) (below := below) (meth := meth) (C := q.1) (As := As.map (gv ad)) (rest := rest.map (gv ad)) (b := ad o) (H := H) (locs := locs) (cells := κ) (slots := σ) (mc := 0) (ms := 0) (n := As.length) (g := F0 m pc lsA ((As.reverse ++ .ref o :: rest).map (gv ad))) ⟨hx, hb, hml, hown, hts⟩ (hS l D aC ad H.size hinj)
    ⟨⟨rfl, rfl, by show d' + 1 ≤ 2048; omega, by show 8 + (maxL + 11) + 64 * d' ≤ 84000; omega, fun w hw a' U hW => gtb_warm hts hW w (gtb_ws hw5 w hw) a', List.mem_cons_self, hts _ hw5, hts _ hw4, ⟨hok.1, hok.2.1⟩, gOkM_len hok, hts _ hw1⟩, hts _ hw2, hts _ hw3⟩
    ⟨gPre_blind, va_recv hK hP hq he, fun U hU hW => ⟨rfl, gPre_of C0.1 hP hS2 U hU hW⟩⟩ rfl (by simp) hL.size (by simp [gv]) (lv_room (by rw [List.map_map]; simpa [Function.comp_def, gv_cat] using hcat)) hd ⟨hκ, hσ⟩
  exact gk_cont run hS2 (fun v h' hq' H1 locs1 hP1 hS1 => kk v h' hq' p l e s m args below meth c D aC ad C0 H1 locs1 lsA hP1 hS1 hL)
/-- the same on both sides -/
theorem gk_same {off : Int} {a b : Int} {tgt : Nat} (hd : decode code pc = .ok (.if_icmp .eq off, 3)) (ht : (pc : Int) + off = (tgt : Int)) (he : a = b) (k : gK L xs κ σ tgt ls st h) : gK L xs κ σ pc ls (.int (zI b) :: .int (zI a) :: st) h := by
  subst he
  intro p l e s m args below meth c D aC ad C H locs lsA hP hS hL
  obtain ⟨hx, hb, hml, hr, hown, hts, hlocks, hK, hinj, hX⟩ := id C.1
  exact lv_icmp_eq (x := zI a) (y := zI a) hx hb hd ht (fun _ => k p l e s m args below meth c D aC ad C H locs lsA hP hS hL) (fun q => absurd rfl q)
theorem gk_lsame {off : Int} {a b : Int} {tgt : Nat} (hd : decode code pc = .ok (.lcmp, 1)) (hd2 : decode code (pc + 1) = .ok (.ifCond .eq off, 3)) (ht : (pc : Int) + 1 + off = (tgt : Int)) (he : a = b) (k : gK L xs κ σ tgt ls st h) : gK L xs κ σ pc ls (.long (zL b) :: .long (zL a) :: st) h := by
  subst he
  intro p l e s m args below meth c D aC ad C H locs lsA hP hS hL
  obtain ⟨hx, hb, hml, hr, hown, hts, hlocks, hK, hinj, hX⟩ := id C.1
  refine W.lcmp (x := zL a) (y := zL a) hx hb hd ?_
  have e0 : lg_cmp (zL a) (zL a) = 0 := by
    unfold lg_cmp
    rw [if_neg (by rw [gt_iff_lt, Int64.lt_iff_toInt_lt]; omega), if_pos rfl]
  rw [e0]
  exact lv_if_eq (x := 0) hx hb hd2 (by omega) (fun _ => k p l e s m args below meth c D aC ad C H locs lsA hP hS hL) (fun q => absurd rfl q)
theorem gk_lald {o n b t : Nat} {i : Int} {j : Nat} (hs : shp o = .inr (2, n, b, t)) (hij : i = (j : Int)) (hj : j < n) (hn : n < 100000) (hd : decode code pc = .ok (.laload, 1)) (hp : pc + 1 = pc') (kk : gK L xs κ σ pc' ls (.long (zL (h.2.1 o j)) :: st) h) : gK L xs κ σ pc ls (.int (zI i) :: .ref o :: st) h := by
  subst hp; subst hij
  intro p l e s m args below meth c D aC ad C0 H locs lsA hP hS hL
  obtain ⟨hx, hb, hml, hr, hown, hts, hlocks, hK, hinj, hX⟩ := id C0.1
  have ha : (gw aC ad h)[o]? = some (ad o, .inl (aC 2, n, .inr (.inl (fun j => zL (h.2.1 o j))))) := by rw [gw_at (shp_ltR hs (by omega)), gcell_R hs]; rfl
  refine va_lald (D := D) hx hb hK hP o 2 ha rfl (i := zI j) (zI_in ⟨by omega, by omega⟩ (by omega)) hd ?_
  rw [zI_clamp (by omega), Int.toNat_natCast]
  exact kk p l e s m args below meth c D aC ad C0 H locs lsA hP hS hL
/-- a word that is told by an int -/
theorem gk_ne0 {a : Int} (ha : inB a) (hd : decode code pc = .ok (.ifCond .eq 7, 3)) (hd1 : decode code (pc + 3) = .ok (.iconst 1, 1)) (hd2 : decode code (pc + 4) = .ok (.goto 4, 3)) (hd3 : decode code (pc + 7) = .ok (.iconst 0, 1)) (hp : pc + 8 = pc') (k : gK L xs κ σ pc' ls (.int (zI (bI (decide (a ≠ 0)))) :: st) h) : gK L xs κ σ pc ls (.int (zI a) :: st) h := by
  subst hp
  unfold inB at ha
  intro p l e s m args below meth c D aC ad C H locs lsA hP hS hL
  obtain ⟨hx, hb, hml, hr, hown, hts, hlocks, hK, hinj, hX⟩ := id C.1
  have e5 := zI_eq ha (show (-2147483648 : Int) ≤ 0 ∧ (0 : Int) ≤ 2147483647 by omega)
  refine lv_if_eq (x := zI a) (tgt := pc + 7) hx hb hd (by omega) (fun q => ?_) (fun q => ?_)
  · have q2 : a = 0 := e5.mp q
    refine lv_iconst (v := zI 0) hx hb hd3 rfl ?_
    have w := k p l e s m args below meth c D aC ad C H locs lsA hP hS hL
    rw [decide_eq_false (fun z => z q2)] at w
    exact w
  · have q2 : a ≠ 0 := fun z => q (e5.mpr z)
    refine lv_iconst (v := zI 1) hx hb hd1 rfl ?_
    refine lv_goto (tgt := pc + 8) hx hb hd2 (by omega) ?_
    have w := k p l e s m args below meth c D aC ad C H locs lsA hP hS hL
    rw [decide_eq_true q2] at w
    exact w
theorem gk_iconst {n : Int} (hd : decode code pc = .ok (.iconst n, 1)) (hp : pc + 1 = pc')  (k : gK L xs κ σ pc' ls (.int (zI n) :: st) h) : gK L xs κ σ pc ls (st) h := by
  subst hp
  intro p l e s m args below meth c D aC ad C H locs lsA hP hS hL
  obtain ⟨hx, hb, hml, hr, hown, hts, hlocks, hK, hinj, hX⟩ := id C.1
  refine lv_iconst (v := zI n) hx hb hd rfl ?_
  exact k p l e s m args below meth c D aC ad C H locs lsA hP hS hL
theorem gk_bipush {n : Int}  (hd : decode code pc = .ok (.bipush n, 2)) (hp : pc + 2 = pc') (hn : -128 ≤ n ∧ n ≤ 127) (k : gK L xs κ σ pc' ls (.int (zI n) :: st) h) : gK L xs κ σ pc ls (st) h := by
  subst hp
  intro p l e s m args below meth c D aC ad C H locs lsA hP hS hL
  obtain ⟨hx, hb, hml, hr, hown, hts, hlocks, hK, hinj, hX⟩ := id C.1
  refine lv_bipush (v := zI n) hx hb hd (by rw [← Int32.toInt_inj, Int8.toInt_toInt32, Int8.toInt_ofInt_of_le (by omega) (by omega), zI_toInt (by omega)]) ?_
  exact k p l e s m args below meth c D aC ad C H locs lsA hP hS hL
theorem gk_iload {i : Nat} {x : Int32}  (hd : decode code pc = .ok (.iload i, 2)) (hp : pc + 2 = pc') (hl : ls[i]? = some (some (.int x))) (k : gK L xs κ σ pc' ls (.int x :: st) h) : gK L xs κ σ pc ls (st) h := by
  subst hp
  intro p l e s m args below meth c D aC ad C H locs lsA hP hS hL
  obtain ⟨hx, hb, hml, hr, hown, hts, hlocks, hK, hinj, hX⟩ := id C.1
  refine lv_iload hx hb hd (hL.at hl) ?_
  exact k p l e s m args below meth c D aC ad C H locs lsA hP hS hL
theorem gk_aload_n {i : Fin 4} {x : Nat}  (hd : decode code pc = .ok (.aload_n i, 1)) (hp : pc + 1 = pc') (hl : ls[(i : Nat)]? = some (some (.ref x))) (k : gK L xs κ σ pc' ls (.ref x :: st) h) : gK L xs κ σ pc ls (st) h := by
  subst hp
  intro p l e s m args below meth c D aC ad C H locs lsA hP hS hL
  obtain ⟨hx, hb, hml, hr, hown, hts, hlocks, hK, hinj, hX⟩ := id C.1
  refine lv_aload_n hx hb hd rfl (hL.at hl) ?_
  exact k p l e s m args below meth c D aC ad C H locs lsA hP hS hL
theorem gk_istore {i : Nat} {x : Int32} (hd : decode code pc = .ok (.istore i, 2)) (hp : pc + 2 = pc') (hn : i < 7) (k : gK L xs κ σ pc' (lst1 i (.int x) ls) st h) : gK L xs κ σ pc ls (.int x :: st) h := by
  subst hp
  intro p l e s m args below meth c D aC ad C H locs lsA hP hS hL
  obtain ⟨hx, hb, hml, hr, hown, hts, hlocks, hK, hinj, hX⟩ := id C.1
  obtain ⟨lv, h1, h2⟩ := hL
  exact lv_istore hx hb hd h1 hn rfl (fun lsB hB => k p l e s m args below meth c D aC ad C H locs lsB hP hS (gLs.put1 h2 hB))
theorem gk_iadd {a b : Int} (hd : decode code pc = .ok (.iadd, 1)) (hp : pc + 1 = pc')  (k : gK L xs κ σ pc' ls (.int (zI (a + b)) :: st) h) : gK L xs κ σ pc ls (.int (zI b) :: .int (zI a) :: st) h := by
  subst hp
  intro p l e s m args below meth c D aC ad C H locs lsA hP hS hL
  obtain ⟨hx, hb, hml, hr, hown, hts, hlocks, hK, hinj, hX⟩ := id C.1
  refine lv_iadd (x := zI a) (y := zI b) hx hb hd ?_
  rw [zI_add]
  exact k p l e s m args below meth c D aC ad C H locs lsA hP hS hL
theorem gk_isub {a b : Int} (hd : decode code pc = .ok (.isub, 1)) (hp : pc + 1 = pc')  (k : gK L xs κ σ pc' ls (.int (zI (a - b)) :: st) h) : gK L xs κ σ pc ls (.int (zI b) :: .int (zI a) :: st) h := by
  subst hp
  intro p l e s m args below meth c D aC ad C H locs lsA hP hS hL
  obtain ⟨hx, hb, hml, hr, hown, hts, hlocks, hK, hinj, hX⟩ := id C.1
  refine lv_isub (x := zI a) (y := zI b) hx hb hd ?_
  rw [zI_sub]
  exact k p l e s m args below meth c D aC ad C H locs lsA hP hS hL
theorem gk_iand {a b : Int} (hd : decode code pc = .ok (.iand, 1)) (hp : pc + 1 = pc')  (k : gK L xs κ σ pc' ls (.int (zI (zI a &&& zI b).toInt) :: st) h) : gK L xs κ σ pc ls (.int (zI b) :: .int (zI a) :: st) h := by
  subst hp
  intro p l e s m args below meth c D aC ad C H locs lsA hP hS hL
  obtain ⟨hx, hb, hml, hr, hown, hts, hlocks, hK, hinj, hX⟩ := id C.1
  refine lv_iand (x := zI a) (y := zI b) hx hb hd ?_
  rw [← zI_of (_ &&& _)]
  exact k p l e s m args below meth c D aC ad C H locs lsA hP hS hL
theorem gk_i2l {a : Int}  (hd : decode code pc = .ok (.i2l, 1)) (hp : pc + 1 = pc') (ha : -2147483648 ≤ a ∧ a ≤ 2147483647) (k : gK L xs κ σ pc' ls (.long (zL a) :: st) h) : gK L xs κ σ pc ls (.int (zI a) :: st) h := by
  subst hp
  intro p l e s m args below meth c D aC ad C H locs lsA hP hS hL
  obtain ⟨hx, hb, hml, hr, hown, hts, hlocks, hK, hinj, hX⟩ := id C.1
  refine lv_i2l (x := zI a) hx hb hd (zI_64 ha) ?_
  exact k p l e s m args below meth c D aC ad C H locs lsA hP hS hL
theorem gk_goto {off : Int} (hd : decode code pc = .ok (.goto off, 3)) (hp : (pc : Int) + off = (pc' : Int)) (k : gK L xs κ σ pc' ls st h) : gK L xs κ σ pc ls st h := by
  intro p l e s m args below meth c D aC ad C H locs lsA hP hS hL
  obtain ⟨hx, hb, hml, hr, hown, hts, hlocks, hK, hinj, hX⟩ := id C.1
  exact lv_goto hx hb hd hp (k p l e s m args below meth c D aC ad C H locs lsA hP hS hL)
theorem gk_tabIn {dflt lo hi off : Int} {offs : Array Int} {len : Nat} {a : Int} (hd : decode code pc = .ok (.tableswitch dflt lo hi offs, len)) (ha : -2147483648 ≤ a ∧ a ≤ 2147483647) (h1 : lo ≤ a) (h2 : a ≤ hi) (ho : offs[(a - lo).toNat]? = some off) (hp : (pc : Int) + off = (pc' : Int)) (k : gK L xs κ σ pc' ls st h) : gK L xs κ σ pc ls (.int (zI a) :: st) h := by
  intro p l e s m args below meth c D aC ad C H locs lsA hP hS hL
  obtain ⟨hx, hb, hml, hr, hown, hts, hlocks, hK, hinj, hX⟩ := id C.1
  exact lv_tableIn (x := zI a) hx hb hd (by rw [zI_toInt ha]; omega) (by rw [zI_toInt ha]; omega) (by rw [zI_toInt ha]; exact ho) hp (k p l e s m args below meth c D aC ad C H locs lsA hP hS hL)
theorem gk_tabOut {dflt lo hi : Int} {offs : Array Int} {len : Nat} {a : Int} (hd : decode code pc = .ok (.tableswitch dflt lo hi offs, len)) (ha : -2147483648 ≤ a ∧ a ≤ 2147483647) (h1 : a < lo ∨ hi < a) (hp : (pc : Int) + dflt = (pc' : Int)) (k : gK L xs κ σ pc' ls st h) : gK L xs κ σ pc ls (.int (zI a) :: st) h := by
  intro p l e s m args below meth c D aC ad C H locs lsA hP hS hL
  obtain ⟨hx, hb, hml, hr, hown, hts, hlocks, hK, hinj, hX⟩ := id C.1
  exact lv_tableOut (x := zI a) hx hb hd (by rw [zI_toInt ha]; exact h1) hp (k p l e s m args below meth c D aC ad C H locs lsA hP hS hL)
theorem gk_iinc {i : Nat} {n a : Int} (hd : decode code pc = .ok (.iinc i n, 3)) (hp : pc + 3 = pc') (hl : ls[i]? = some (some (.int (zI a)))) (hn : i < 7) (k : gK L xs κ σ pc' (lst1 i (.int (zI (a + n))) ls) st h) : gK L xs κ σ pc ls st h := by
  subst hp
  intro p l e s m args below meth c D aC ad C H locs lsA hP hS hL
  obtain ⟨hx, hb, hml, hr, hown, hts, hlocks, hK, hinj, hX⟩ := id C.1
  obtain ⟨lv, h1, h2⟩ := hL
  obtain ⟨kk, hk⟩ := List.mem_iff_getElem?.mp (h2 i _ hl)
  exact lv_iinc (v := zI (a + n)) (x := zI a) hx hb hd h1 hk (zI_add a n) hn rfl (fun lsB hB => k p l e s m args below meth c D aC ad C H locs lsB hP hS (gLs.put1 h2 hB))
theorem gk_icmp_gt {off : Int} {a b : Int} {tgt : Nat} (hd : decode code pc = .ok (.if_icmp .gt off, 3)) (ht : (pc : Int) + off = (tgt : Int)) (hp : pc + 3 = pc') (hb2 : (-2147483648 ≤ a ∧ a ≤ 2147483647) ∧ (-2147483648 ≤ b ∧ b ≤ 2147483647)) (kt : a > b → gK L xs κ σ tgt ls st h) (kf : a ≤ b → gK L xs κ σ pc' ls st h) : gK L xs κ σ pc ls (.int (zI b) :: .int (zI a) :: st) h := by
  subst hp
  intro p l e s m args below meth c D aC ad C H locs lsA hP hS hL
  obtain ⟨hx, hb, hml, hr, hown, hts, hlocks, hK, hinj, hX⟩ := id C.1
  have z0 : zI 0 = 0 := rfl
  have hB : (-2147483648 ≤ a ∧ a ≤ 2147483647) ∧ (-2147483648 ≤ b ∧ (b : Int) ≤ 2147483647) := ⟨hb2.1, hb2.2⟩
  have e1 := zI_lt hB.1 hB.2
  have e2 := zI_lt hB.2 hB.1
  have e3 := zI_le hB.1 hB.2
  have e4 := zI_le hB.2 hB.1
  have e5 := zI_eq hB.1 hB.2
  refine lv_icmp_gt (x := zI a) (y := zI b) hx hb hd ht (fun q => kt ?_ p l e s m args below meth c D aC ad C H locs lsA hP hS hL) (fun q => kf ?_ p l e s m args below meth c D aC ad C H locs lsA hP hS hL)
  · first | exact e1.mp q | exact e2.mp q | exact e3.mp q | exact e4.mp q | exact e5.mp q | exact fun z => q (e5.mpr z)
  · first | exact e5.mp q | exact e5.mp (Decidable.not_not.mp q) | exact fun z => q (e5.mpr z) | exact Int.not_lt.mp (fun z => q (e1.mpr z)) | exact Int.not_lt.mp (fun z => q (e2.mpr z)) | exact Int.not_le.mp (fun z => q (e3.mpr z)) | exact Int.not_le.mp (fun z => q (e4.mpr z))
theorem gk_icmp_eq {off : Int} {a b : Int} {tgt : Nat} (hd : decode code pc = .ok (.if_icmp .eq off, 3)) (ht : (pc : Int) + off = (tgt : Int)) (hp : pc + 3 = pc') (hb2 : (-2147483648 ≤ a ∧ a ≤ 2147483647) ∧ (-2147483648 ≤ b ∧ b ≤ 2147483647)) (kt : a = b → gK L xs κ σ tgt ls st h) (kf : a ≠ b → gK L xs κ σ pc' ls st h) : gK L xs κ σ pc ls (.int (zI b) :: .int (zI a) :: st) h := by
  subst hp
  intro p l e s m args below meth c D aC ad C H locs lsA hP hS hL
  obtain ⟨hx, hb, hml, hr, hown, hts, hlocks, hK, hinj, hX⟩ := id C.1
  have z0 : zI 0 = 0 := rfl
  have hB : (-2147483648 ≤ a ∧ a ≤ 2147483647) ∧ (-2147483648 ≤ b ∧ (b : Int) ≤ 2147483647) := ⟨hb2.1, hb2.2⟩
  have e1 := zI_lt hB.1 hB.2
  have e2 := zI_lt hB.2 hB.1
  have e3 := zI_le hB.1 hB.2
  have e4 := zI_le hB.2 hB.1
  have e5 := zI_eq hB.1 hB.2
  refine lv_icmp_eq (x := zI a) (y := zI b) hx hb hd ht (fun q => kt ?_ p l e s m args below meth c D aC ad C H locs lsA hP hS hL) (fun q => kf ?_ p l e s m args below meth c D aC ad C H locs lsA hP hS hL)
  · first | exact e1.mp q | exact e2.mp q | exact e3.mp q | exact e4.mp q | exact e5.mp q | exact fun z => q (e5.mpr z)
  · first | exact e5.mp q | exact e5.mp (Decidable.not_not.mp q) | exact fun z => q (e5.mpr z) | exact Int.not_lt.mp (fun z => q (e1.mpr z)) | exact Int.not_lt.mp (fun z => q (e2.mpr z)) | exact Int.not_le.mp (fun z => q (e3.mpr z)) | exact Int.not_le.mp (fun z => q (e4.mpr z))
theorem gk_if_ne {off : Int} {a : Int} {tgt : Nat} (hd : decode code pc = .ok (.ifCond .ne off, 3)) (ht : (pc : Int) + off = (tgt : Int)) (hp : pc + 3 = pc') (hb2 : -2147483648 ≤ a ∧ a ≤ 2147483647) (kt : a ≠ 0 → gK L xs κ σ tgt ls st h) (kf : a = 0 → gK L xs κ σ pc' ls st h) : gK L xs κ σ pc ls (.int (zI a) :: st) h := by
  subst hp
  intro p l e s m args below meth c D aC ad C H locs lsA hP hS hL
  obtain ⟨hx, hb, hml, hr, hown, hts, hlocks, hK, hinj, hX⟩ := id C.1
  have z0 : zI 0 = 0 := rfl
  have hB : (-2147483648 ≤ a ∧ a ≤ 2147483647) ∧ (-2147483648 ≤ 0 ∧ (0 : Int) ≤ 2147483647) := ⟨hb2, by omega⟩
  have e1 := zI_lt hB.1 hB.2
  have e2 := zI_lt hB.2 hB.1
  have e3 := zI_le hB.1 hB.2
  have e4 := zI_le hB.2 hB.1
  have e5 := zI_eq hB.1 hB.2
  refine lv_if_ne (x := zI a) hx hb hd ht (fun q => kt ?_ p l e s m args below meth c D aC ad C H locs lsA hP hS hL) (fun q => kf ?_ p l e s m args below meth c D aC ad C H locs lsA hP hS hL)
  · first | exact e1.mp q | exact e2.mp q | exact e3.mp q | exact e4.mp q | exact e5.mp q | exact fun z => q (e5.mpr z)
  · first | exact e5.mp q | exact e5.mp (Decidable.not_not.mp q) | exact fun z => q (e5.mpr z) | exact Int.not_lt.mp (fun z => q (e1.mpr z)) | exact Int.not_lt.mp (fun z => q (e2.mpr z)) | exact Int.not_le.mp (fun z => q (e3.mpr z)) | exact Int.not_le.mp (fun z => q (e4.mpr z))
theorem gk_if_eq {off : Int} {a : Int} {tgt : Nat} (hd : decode code pc = .ok (.ifCond .eq off, 3)) (ht : (pc : Int) + off = (tgt : Int)) (hp : pc + 3 = pc') (hb2 : -2147483648 ≤ a ∧ a ≤ 2147483647) (kt : a = 0 → gK L xs κ σ tgt ls st h) (kf : a ≠ 0 → gK L xs κ σ pc' ls st h) : gK L xs κ σ pc ls (.int (zI a) :: st) h := by
  subst hp
  intro p l e s m args below meth c D aC ad C H locs lsA hP hS hL
  obtain ⟨hx, hb, hml, hr, hown, hts, hlocks, hK, hinj, hX⟩ := id C.1
  have z0 : zI 0 = 0 := rfl
  have hB : (-2147483648 ≤ a ∧ a ≤ 2147483647) ∧ (-2147483648 ≤ 0 ∧ (0 : Int) ≤ 2147483647) := ⟨hb2, by omega⟩
  have e1 := zI_lt hB.1 hB.2
  have e2 := zI_lt hB.2 hB.1
  have e3 := zI_le hB.1 hB.2
  have e4 := zI_le hB.2 hB.1
  have e5 := zI_eq hB.1 hB.2
  refine lv_if_eq (x := zI a) hx hb hd ht (fun q => kt ?_ p l e s m args below meth c D aC ad C H locs lsA hP hS hL) (fun q => kf ?_ p l e s m args below meth c D aC ad C H locs lsA hP hS hL)
  · first | exact e1.mp q | exact e2.mp q | exact e3.mp q | exact e4.mp q | exact e5.mp q | exact fun z => q (e5.mpr z)
  · first | exact e5.mp q | exact e5.mp (Decidable.not_not.mp q) | exact fun z => q (e5.mpr z) | exact Int.not_lt.mp (fun z => q (e1.mpr z)) | exact Int.not_lt.mp (fun z => q (e2.mpr z)) | exact Int.not_le.mp (fun z => q (e3.mpr z)) | exact Int.not_le.mp (fun z => q (e4.mpr z))
end KROWS
