/-! led where no such bird is gone: it throws, and the law's led catches -/
def exC : Cond := .castable "java/util/NoSuchElementException" "java/util/NoSuchElementException"
def exD (X : String) : Cond := .declares (Bundle.initS X)
def Zqs (A : Nat → Prop) (U : State) (H : Heap) : Prop := vx_Zq Bundle.tN "UNASSIGNED_STACK" Bundle.steD A U H ∧ vx_Zq Bundle.tN "SUPPRESSED_SENTINEL" Bundle.listD A U H ∧ (va_Nw exC U ∧ va_Nw (exD "java/lang/RuntimeException") U ∧ va_Nw (exD "java/lang/Exception") U ∧ va_Nw (exD "java/lang/Throwable") U)
def rmE (d : Nat) : Room := { frames := d, cells := 1, slots := 6, locals := 64 * d }
abbrev eP : Type := List Frame → Array Value → State → va_G → (Nat → ClassId) → (Nat → Nat) → State → Prop
def eCx (own : String) (cc : ByteArray) (nL : Nat) (rt : Option FieldType) (tb : List ExceptionTableEntry) (p : Program) (l : Launch) (s : State) (m : MethodId) (args : Array Value) (meth : Method) (c : Code) (D : va_G) (aC : Nat → ClassId) (ad : Nat → Nat) : Prop := gCx own cc nL rt p s m args meth c D aC ad ∧ l.stackTraces = false ∧ Zqs (gA ad s.heap.size) s s.heap ∧ c.exceptionTable.toList = tb
def gE (own : String) (cc : ByteArray) (nL : Nat) (rt : Option FieldType) (d : Nat) (tb : List ExceptionTableEntry) (pc : Nat) (ls : List (Option Value)) (st : List Value) (h : gH) (Q : eP) : Prop :=
  ∀ (p : Program) (l : Launch) (e : Env) (s : State) (m : MethodId) (args : Array Value) (below : List Frame) (meth : Method) (c : Code) (D : va_G) (aC : Nat → ClassId) (ad : Nat → Nat), eCx own cc nL rt tb p l s m args meth c D aC ad →
  ∀ (H : Heap) (locs : List Loc) (lsA : Array Slot), va_P D vwCl (gw aC ad h) H → va_S (gA ad s.heap.size) s.heap H locs → gLs ad lsA nL ls →
  W p l e (rmE d) s m args below meth c H locs 0 0 (Q below args s D aC ad) (F0 m pc lsA (st.map (gv ad)))
section EROWS
variable {own : String} {cc : ByteArray} {nL : Nat} {rt : Option FieldType} {d pc pc' : Nat} {tb : List ExceptionTableEntry} {ls : List (Option Value)} {st : List Value} {h : gH} {Q : eP}
theorem ge_wk {ls' : List (Option Value)} (k : gE own cc nL rt d tb pc ls' st h Q) (hl : lle ls' ls) : gE own cc nL rt d tb pc ls st h Q := by
  intro p l e s m args below meth c D aC ad C H locs lsA hP hS hL
  obtain ⟨lv, h1, h2⟩ := hL
  exact k p l e s m args below meth c D aC ad C H locs lsA hP hS ⟨lv, h1, fun i v q => h2 i v (lle_at hl i v q)⟩
theorem ge_iconst {n : Int} (hd : decode cc pc = .ok (.iconst n, 1)) (hp : pc + 1 = pc')  (k : gE own cc nL rt d tb pc' ls (.int (zI n) :: st) h Q) : gE own cc nL rt d tb pc ls (st) h Q := by
  subst hp
  intro p l e s m args below meth c D aC ad C H locs lsA hP hS hL
  obtain ⟨hx, hb, hml, hr, hown, hts, hlocks, hK, hinj, hX⟩ := id C.1
  refine lv_iconst (v := zI n) hx hb hd rfl ?_
  exact k p l e s m args below meth c D aC ad C H locs lsA hP hS hL
theorem ge_istore_n {i : Fin 4} {x : Int32} (hd : decode cc pc = .ok (.istore_n i, 1)) (hp : pc + 1 = pc') (hn : (i : Nat) < nL) (k : gE own cc nL rt d tb pc' (lst1 i (.int x) ls) st h Q) : gE own cc nL rt d tb pc ls (.int x :: st) h Q := by
  subst hp
  intro p l e s m args below meth c D aC ad C H locs lsA hP hS hL
  obtain ⟨hx, hb, hml, hr, hown, hts, hlocks, hK, hinj, hX⟩ := id C.1
  obtain ⟨lv, h1, h2⟩ := hL
  exact lv_istore_n hx hb hd rfl h1 hn rfl (fun lsB hB => k p l e s m args below meth c D aC ad C H locs lsB hP hS (gLs.put1 h2 hB))
theorem ge_iload_n {i : Fin 4} {x : Int32}  (hd : decode cc pc = .ok (.iload_n i, 1)) (hp : pc + 1 = pc') (hl : ls[(i : Nat)]? = some (some (.int x))) (k : gE own cc nL rt d tb pc' ls (.int x :: st) h Q) : gE own cc nL rt d tb pc ls (st) h Q := by
  subst hp
  intro p l e s m args below meth c D aC ad C H locs lsA hP hS hL
  obtain ⟨hx, hb, hml, hr, hown, hts, hlocks, hK, hinj, hX⟩ := id C.1
  refine lv_iload_n hx hb hd rfl (hL.at hl) ?_
  exact k p l e s m args below meth c D aC ad C H locs lsA hP hS hL
theorem ge_aload_n {i : Fin 4} {x : Nat}  (hd : decode cc pc = .ok (.aload_n i, 1)) (hp : pc + 1 = pc') (hl : ls[(i : Nat)]? = some (some (.ref x))) (k : gE own cc nL rt d tb pc' ls (.ref x :: st) h Q) : gE own cc nL rt d tb pc ls (st) h Q := by
  subst hp
  intro p l e s m args below meth c D aC ad C H locs lsA hP hS hL
  obtain ⟨hx, hb, hml, hr, hown, hts, hlocks, hK, hinj, hX⟩ := id C.1
  refine lv_aload_n hx hb hd rfl (hL.at hl) ?_
  exact k p l e s m args below meth c D aC ad C H locs lsA hP hS hL
theorem ge_icmp_ge {off : Int} {a b : Int} {tgt : Nat} (hd : decode cc pc = .ok (.if_icmp .ge off, 3)) (ht : (pc : Int) + off = (tgt : Int)) (hp : pc + 3 = pc') (hb2 : (-2147483648 ≤ a ∧ a ≤ 2147483647) ∧ (-2147483648 ≤ b ∧ b ≤ 2147483647)) (kt : a ≥ b → gE own cc nL rt d tb tgt ls st h Q) (kf : a < b → gE own cc nL rt d tb pc' ls st h Q) : gE own cc nL rt d tb pc ls (.int (zI b) :: .int (zI a) :: st) h Q := by
  subst hp
  intro p l e s m args below meth c D aC ad C H locs lsA hP hS hL
  obtain ⟨hx, hb, hml, hr, hown, hts, hlocks, hK, hinj, hX⟩ := id C.1
  have z0 : zI 0 = 0 := rfl
  have hB : (-2147483648 ≤ a ∧ a ≤ 2147483647) ∧ (-2147483648 ≤ b ∧ (b : Int) ≤ 2147483647) := ⟨hb2.1, hb2.2⟩
  have e1 := zI_lt hB.1 hB.2
  have e2 := zI_lt hB.2 hB.1
  have e3 := zI_le hB.1 hB.2
  have e4 := zI_le hB.2 hB.1
  have e5 := zI_eq hB.1 hB.2
  refine lv_icmp_ge (x := zI a) (y := zI b) hx hb hd ht (fun q => kt ?_ p l e s m args below meth c D aC ad C H locs lsA hP hS hL) (fun q => kf ?_ p l e s m args below meth c D aC ad C H locs lsA hP hS hL)
  · first | exact e1.mp q | exact e2.mp q | exact e3.mp q | exact e4.mp q | exact e5.mp q | exact fun z => q (e5.mpr z)
  · first | exact e5.mp q | exact e5.mp (Decidable.not_not.mp q) | exact fun z => q (e5.mpr z) | exact Int.not_lt.mp (fun z => q (e1.mpr z)) | exact Int.not_lt.mp (fun z => q (e2.mpr z)) | exact Int.not_le.mp (fun z => q (e3.mpr z)) | exact Int.not_le.mp (fun z => q (e4.mpr z))
theorem ge_icmp_ne {off : Int} {a b : Int} {tgt : Nat} (hd : decode cc pc = .ok (.if_icmp .ne off, 3)) (ht : (pc : Int) + off = (tgt : Int)) (hp : pc + 3 = pc') (hb2 : (-2147483648 ≤ a ∧ a ≤ 2147483647) ∧ (-2147483648 ≤ b ∧ b ≤ 2147483647)) (kt : a ≠ b → gE own cc nL rt d tb tgt ls st h Q) (kf : a = b → gE own cc nL rt d tb pc' ls st h Q) : gE own cc nL rt d tb pc ls (.int (zI b) :: .int (zI a) :: st) h Q := by
  subst hp
  intro p l e s m args below meth c D aC ad C H locs lsA hP hS hL
  obtain ⟨hx, hb, hml, hr, hown, hts, hlocks, hK, hinj, hX⟩ := id C.1
  have z0 : zI 0 = 0 := rfl
  have hB : (-2147483648 ≤ a ∧ a ≤ 2147483647) ∧ (-2147483648 ≤ b ∧ (b : Int) ≤ 2147483647) := ⟨hb2.1, hb2.2⟩
  have e1 := zI_lt hB.1 hB.2
  have e2 := zI_lt hB.2 hB.1
  have e3 := zI_le hB.1 hB.2
  have e4 := zI_le hB.2 hB.1
  have e5 := zI_eq hB.1 hB.2
  refine lv_icmp_ne (x := zI a) (y := zI b) hx hb hd ht (fun q => kt ?_ p l e s m args below meth c D aC ad C H locs lsA hP hS hL) (fun q => kf ?_ p l e s m args below meth c D aC ad C H locs lsA hP hS hL)
  · first | exact e1.mp q | exact e2.mp q | exact e3.mp q | exact e4.mp q | exact e5.mp q | exact fun z => q (e5.mpr z)
  · first | exact e5.mp q | exact e5.mp (Decidable.not_not.mp q) | exact fun z => q (e5.mpr z) | exact Int.not_lt.mp (fun z => q (e1.mpr z)) | exact Int.not_lt.mp (fun z => q (e2.mpr z)) | exact Int.not_le.mp (fun z => q (e3.mpr z)) | exact Int.not_le.mp (fun z => q (e4.mpr z))
theorem ge_if_eq {off : Int} {a : Int} {tgt : Nat} (hd : decode cc pc = .ok (.ifCond .eq off, 3)) (ht : (pc : Int) + off = (tgt : Int)) (hp : pc + 3 = pc') (hb2 : -2147483648 ≤ a ∧ a ≤ 2147483647) (kt : a = 0 → gE own cc nL rt d tb tgt ls st h Q) (kf : a ≠ 0 → gE own cc nL rt d tb pc' ls st h Q) : gE own cc nL rt d tb pc ls (.int (zI a) :: st) h Q := by
  subst hp
  intro p l e s m args below meth c D aC ad C H locs lsA hP hS hL
  obtain ⟨hx, hb, hml, hr, hown, hts, hlocks, hK, hinj, hX⟩ := id C.1
  have z0 : zI 0 = 0 := rfl
  have hB : (-2147483648 ≤ a ∧ a ≤ 2147483647) ∧ (-2147483648 ≤ 0 ∧ (0 : Int) ≤ 2147483647) := ⟨hb2, by omega⟩
  have e1 := zI_lt hB.1 hB.2
  have e2 := zI_lt hB.2 hB.1
  have e3 := zI_le hB.1 hB.2
  have e4 := zI_le hB.2 hB.1
  have e5 := zI_eq hB.1 hB.2
  refine lv_if_eq (x := zI a) hx hb hd ht (fun q => kt ?_ p l e s m args below meth c D aC ad C H locs lsA hP hS hL) (fun q => kf ?_ p l e s m args below meth c D aC ad C H locs lsA hP hS hL)
  · first | exact e1.mp q | exact e2.mp q | exact e3.mp q | exact e4.mp q | exact e5.mp q | exact fun z => q (e5.mpr z)
  · first | exact e5.mp q | exact e5.mp (Decidable.not_not.mp q) | exact fun z => q (e5.mpr z) | exact Int.not_lt.mp (fun z => q (e1.mpr z)) | exact Int.not_lt.mp (fun z => q (e2.mpr z)) | exact Int.not_le.mp (fun z => q (e3.mpr z)) | exact Int.not_le.mp (fun z => q (e4.mpr z))
theorem ge_iinc {i : Nat} {n a : Int} (hd : decode cc pc = .ok (.iinc i n, 3)) (hp : pc + 3 = pc') (hl : ls[i]? = some (some (.int (zI a)))) (hn : i < nL) (k : gE own cc nL rt d tb pc' (lst1 i (.int (zI (a + n))) ls) st h Q) : gE own cc nL rt d tb pc ls st h Q := by
  subst hp
  intro p l e s m args below meth c D aC ad C H locs lsA hP hS hL
  obtain ⟨hx, hb, hml, hr, hown, hts, hlocks, hK, hinj, hX⟩ := id C.1
  obtain ⟨lv, h1, h2⟩ := hL
  obtain ⟨kk, hk⟩ := List.mem_iff_getElem?.mp (h2 i _ hl)
  exact lv_iinc (v := zI (a + n)) (x := zI a) hx hb hd h1 hk (zI_add a n) hn rfl (fun lsB hB => k p l e s m args below meth c D aC ad C H locs lsB hP hS (gLs.put1 h2 hB))
theorem ge_goto {off : Int} (hd : decode cc pc = .ok (.goto off, 3)) (hp : (pc : Int) + off = (pc' : Int)) (k : gE own cc nL rt d tb pc' ls st h Q) : gE own cc nL rt d tb pc ls st h Q := by
  intro p l e s m args below meth c D aC ad C H locs lsA hP hS hL
  obtain ⟨hx, hb, hml, hr, hown, hts, hlocks, hK, hinj, hX⟩ := id C.1
  exact lv_goto hx hb hd hp (k p l e s m args below meth c D aC ad C H locs lsA hP hS hL)
theorem ge_i2l {a : Int}  (hd : decode cc pc = .ok (.i2l, 1)) (hp : pc + 1 = pc') (ha : -2147483648 ≤ a ∧ a ≤ 2147483647) (k : gE own cc nL rt d tb pc' ls (.long (zL a) :: st) h Q) : gE own cc nL rt d tb pc ls (.int (zI a) :: st) h Q := by
  subst hp
  intro p l e s m args below meth c D aC ad C H locs lsA hP hS hL
  obtain ⟨hx, hb, hml, hr, hown, hts, hlocks, hK, hinj, hX⟩ := id C.1
  refine lv_i2l (x := zI a) hx hb hd (zI_64 ha) ?_
  exact k p l e s m args below meth c D aC ad C H locs lsA hP hS hL
theorem ge_get {C : String} {T : u_T} {N ci index o k : Nat} {ks : List (Nat × Nat)} {a : Nat × Nat} (hin : ∀ w ∈ u_ws C T N, w ∈ gtb) (hc : vwCl[ci]? = some (C, T, N)) (hk : k < N) (hlink : (Cond.fieldLink own index (T k).1 (T k).2.1 (T k).2.2.1) ∈ gtb ∨ ∃ host, (Cond.fieldLinkNest own index (T k).1 (T k).2.1 (T k).2.2.1 host) ∈ gtb) (hs : shp o = .inl (ci, ks)) (hka : ks[k]? = some a) (hd : decode cc pc = .ok (.getfield index, 3)) (hp : pc + 3 = pc') (kk : gE own cc nL rt d tb pc' ls (gfv (h.1 o) (h.2.1 o) h.2.2 k a :: st) h Q) : gE own cc nL rt d tb pc ls (.ref o :: st) h Q := by
  subst hp
  intro p l e s m args below meth c D aC ad C0 H locs lsA hP hS hL
  obtain ⟨hx, hb, hml, hr, hown, hts, hlocks, hK, hinj, hX⟩ := id C0.1
  have he : (gw aC ad h)[o]? = some (ad o, .inr (ci, (gfs (h.1 o) (h.2.1 o) h.2.2 0 ks).map (gv ad))) := by rw [gw_at (shp_ltL hs), gcell_L hs]
  have hv : ((gfs (h.1 o) (h.2.1 o) h.2.2 0 ks).map (gv ad))[k]? = some (gv ad (gfv (h.1 o) (h.2.1 o) h.2.2 k a)) := by
    rw [List.getElem?_map, gfs_get, hka, Nat.zero_add]; rfl
  have kk' := kk p l e s m args below meth c D aC ad C0 H locs lsA hP hS hL
  rcases hlink with hl | ⟨host, hl⟩
  · exact va_get (D := D) (ci := ci) (C := C) (T := T) (N := N) hx hb hts hin hown hK hP o he hc k hk (hts _ hl) (fun _ q => q) hv hd kk'
  · exact va_getN (D := D) (ci := ci) (C := C) (T := T) (N := N) hx hb hts hin hown hK hP o he hc k hk (hts _ hl) (fun _ q => q) hv hd kk'
theorem ge_cont {p : Program} {l : Launch} {e : Env} {s : State} {m : MethodId} {args : Array Value} {below : List Frame} {meth : Method} {c : Code} {D : va_G} {aC : Nat → ClassId} {ad : Nat → Nat} {H : Heap} {locs : List Loc} {lsA : Array Slot} {st0 : List Value} {rest : List Value} {a : Array Value} {Q' : Option Value → gH → Prop} {G : State → Prop} (C0 : gCx own cc nL rt p s m args meth c D aC ad)
    (hr : va_Run p l e (rmE d) s m args below meth c H locs 0 0 0 0 (F0 m pc lsA st0) (rest.map (gv ad)) (gQm D aC ad (gA ad H.size) Q' a) (gA ad H.size)) (hS : va_S (gA ad s.heap.size) s.heap H locs)
    (kk : ∀ (v : Option Value) (h' : gH), Q' v h' → ∀ (H1 : Heap) (locs1 : List Loc), va_P D vwCl (gw aC ad h') H1 → va_S (gA ad s.heap.size) s.heap H1 locs1 → W p l e (rmE d) s m args below meth c H1 locs1 0 0 G (F0 m (pc + 3) lsA ((v.toList ++ rest).map (gv ad)))) : W p l e (rmE d) s m args below meth c H locs 0 0 G (F0 m pc lsA st0) := by
  intro T hT X
  obtain ⟨v, st₀, t, T', L, h0, X', hL2, e1, e2, ⟨⟨v', h', hv, hq', hPw⟩, hz, hk⟩, st9⟩ := hr T hT X
  have hv' : v = v'.map (gv ad) := by cases hv; rfl
  subst hv'
  rw [h0] at hz hk
  have hA := gA_mono (ad := ad) hS.1
  have hS' : va_S (gA ad s.heap.size) s.heap T'.heap (locs ++ L) := ⟨Nat.le_trans hS.1 (by rw [e1]; exact hz), fun q h1 h2 => by rw [e1, hk q (Nat.lt_of_lt_of_le h1 hS.1) (fun z => h2 (hA q z))]; exact hS.2.1 q h1 h2, fun q hq => by
      rcases List.mem_append.mp hq with g | g
      · exact hS.2.2 q g
      · exact hA _ (hL2 q g)⟩
  obtain ⟨tt, a1, b1⟩ := kk v' h' hq' T'.heap (locs ++ L) (by rw [e1]; exact hPw) hS' T' rfl X'
  rw [gv_maps] at a1
  exact ⟨tt, st9 tt a1, b1⟩
theorem ge_callV {C : String} {index maxL d' ci o : Nat} {y : MethodName} {bytes : ByteArray} {ret : Option FieldType} {As rest : List Value} {ks : List (Nat × Nat)} {Q' : Option Value → gH → Prop} (hS : gSp d' y bytes maxL ret (.ref o :: As) h Q') (hok : gOkM y As.length) (hw1 : Cond.methodLink own index y ∈ gtb) (hw2 : Cond.instanceMethod y ∈ gtb) (hw3 : Cond.selects C y y ∈ gtb) (hw4 : Cond.initialized y.cls ∈ gtb) (hw5 : Cond.code y bytes maxL ret ∈ gtb) (hmx : maxL ≤ 40) (hc : (vwCl[ci]?).map (fun q => q.1) = some C) (hs : shp o = .inl (ci, ks)) (hdl : d' < d) (hst : st = As.reverse ++ .ref o :: rest) (hcat : (rest.map fun v => v.category).sum ≤ 8) (hd : decode cc pc = .ok (.invokevirtual index, 3)) (hp : pc + 3 = pc')
    (kk : ∀ (v : Option Value) (h' : gH), Q' v h' → gE own cc nL rt d tb pc' ls (v.toList ++ rest) h' Q) : gE own cc nL rt d tb pc ls st h Q := by
  subst hp; subst hst
  intro p l e s m args below meth c D aC ad C0 H locs lsA hP hS2 hL
  obtain ⟨hx, hb, hml, hr, hown, hts, hlocks, hK, hinj, hX⟩ := id C0.1
  obtain ⟨q, hq, rfl⟩ := Option.map_eq_some_iff.mp hc
  have he : (gw aC ad h)[o]? = some (ad o, .inr (ci, (gfs (h.1 o) (h.2.1 o) h.2.2 0 ks).map (gv ad))) := by rw [gw_at (shp_ltL hs), gcell_L hs]
  have run := va_runV (p := p) (l := l) (e := e) (R := rmE d) (below := below) (meth := meth) (C := q.1) (As := As.map (gv ad)) (rest := rest.map (gv ad)) (b := ad o) (H := H) (locs := locs) (cells := 0) (slots := 0) (mc := 0) (ms := 0) (n := As.length) (g := F0 m pc lsA ((As.reverse ++ .ref o :: rest).map (gv ad))) ⟨hx, hb, hml, hown, hts⟩ (hS l D aC ad H.size hinj)
    ⟨⟨rfl, rfl, hdl, by show 8 + (maxL + 11) + 64 * d' ≤ 64 * d; omega, fun w hw a' U hW => gtb_warm hts hW w (gtb_ws hw5 w hw) a', List.mem_cons_self, hts _ hw5, hts _ hw4, ⟨hok.1, hok.2.1⟩, gOkM_len hok, hts _ hw1⟩, hts _ hw2, hts _ hw3⟩
    ⟨gPre_blind, va_recv hK hP hq he, fun U hU hW => ⟨rfl, gPre_of C0.1 hP hS2 U hU hW⟩⟩ rfl (by simp) hL.size (by simp [gv]) (lv_room (by rw [List.map_map]; simpa [Function.comp_def, gv_cat] using hcat)) hd ⟨Nat.zero_le _, Nat.zero_le _⟩
  exact ge_cont C0.1 run hS2 (fun v h' hq' H1 locs1 hP1 hS1 => kk v h' hq' p l e s m args below meth c D aC ad C0 H1 locs1 lsA hP1 hS1 hL)
theorem ge_last {o n b t : Nat} {i x : Int} {j : Nat} (hs : shp o = .inr (2, n, b, t)) (hij : i = (j : Int)) (hj : j < n) (hn : n < 100000) (hd : decode cc pc = .ok (.lastore, 1)) (hp : pc + 1 = pc') (kk : gE own cc nL rt d tb pc' ls st (gul h o j x) Q) : gE own cc nL rt d tb pc ls (.long (zL x) :: .int (zI i) :: .ref o :: st) h Q := by
  subst hp; subst hij
  intro p l e s m args below meth c D aC ad C0 H locs lsA hP hS hL
  obtain ⟨hx, hb, hml, hr, hown, hts, hlocks, hK, hinj, hX⟩ := id C0.1
  have ha : (gw aC ad h)[o]? = some (ad o, .inl (aC 2, n, .inr (.inl (fun j => zL (h.2.1 o j))))) := by rw [gw_at (shp_ltR hs (by omega)), gcell_R hs]; rfl
  refine va_last (D := D) hx hb hK hP (gw_D hinj) hS o 2 ha rfl (i := zI j) (x := zL x) (zI_in ⟨by omega, by omega⟩ (by omega)) hd (fun H1 locs1 hP1 hD1 hS1 => ?_)
  rw [zI_clamp (by omega), Int.toNat_natCast] at hP1
  rw [gw_set (h' := gul h o j x) (by
    rw [gcell_R hs]
    show (Sum.inl (aC 2, n, Sum.inr (Sum.inl (fun i => zL (u2 h.2.1 o j x o i)))) : va_E) = _
    have e2 : (fun i => zL (u2 h.2.1 o j x o i)) = vp_updL (fun j => zL (h.2.1 o j)) j (zL x) := by
      funext i
      rw [u2_s]
      unfold up1 vp_updL
      split <;> rfl
    rw [e2]) (fun i _ hi => gcell_neL hi)] at hP1
  exact kk p l e s m args below meth c D aC ad C0 H1 locs1 lsA hP1 hS1 hL
end EROWS
def ldW : List Cond := nxW RX10 381 "java/util/NoSuchElementException" 13 prog_28_method_4_code ["java/lang/RuntimeException", "java/lang/Exception"]
theorem ldW_in : ∀ w ∈ ldW, w ∈ gtb ∨ w = exC ∨ w = exD "java/lang/RuntimeException" ∨ w = exD "java/lang/Exception" ∨ w = exD "java/lang/Throwable" := by decide +kernel
theorem ldW_ot : ∀ w ∈ Cond.classLink RX10 377 "java/util/NoSuchElementException" :: Cond.initialized "java/util/NoSuchElementException" :: ldW, vx_ot w = true := by decide +kernel
def ldXC (D : va_G) (aC : Nat → ClassId) (ad : Nat → Nat) (h : gH) (A : Nat → Prop) : String → State → State → Prop := fun E st t => E = "java/util/NoSuchElementException" ∧ va_P D vwCl (gw aC ad h) t.heap ∧ va_F A st t
def ldP1 (h : gH) : eP := fun below args s D aC ad => vx_MQ below (fun _ _ _ _ => False) (ldXC D aC ad h (gA ad s.heap.size)) args s 1 6 (gA ad s.heap.size)
theorem ge_throw {h : gH} {ls : List (Option Value)} : gE RX10 cX10_led 4 (some .int) 13 [] 42 ls [] h (ldP1 h) := by
  intro p l e s m args below meth c D aC ad C H locs lsA hP hS hL
  obtain ⟨hx, hb, hml, hr, hown, hts, hlocks, hK, hinj, hX⟩ := id C.1
  obtain ⟨-, hl, hZ, htb⟩ := C
  refine vx_throwNX (ix := 13) (rx := prog_28_method_4_code) (own := RX10) (cls := "java/util/NoSuchElementException") (text := "no such bird is gone") (names := ["java/lang/RuntimeException", "java/lang/Exception"]) (ik := 377) (is := 379) (ic := 381) (sa := ad 1019) (A := gA ad s.heap.size) hx hb hl (by decide +kernel) (by decide +kernel) (by decide +kernel) (by decide +kernel) hown (by decide +kernel) (by decide +kernel) (hts _ (gtb_at 1204 (by decide +kernel) rfl)) (hts _ (gtb_at 23 (by decide +kernel) rfl)) (hX.2.1 ("GrudgeLoft", 379, "no such bird is gone", 19) (by decide +kernel)) (fun w hw => by
    rcases ldW_in w hw with q | rfl | rfl | rfl | rfl
    · exact hts w q
    · exact va_Nw.use rfl hZ.2.2.1
    · exact va_Nw.use rfl hZ.2.2.2.1
    · exact va_Nw.use rfl hZ.2.2.2.2.1
    · exact va_Nw.use rfl hZ.2.2.2.2.2) ldW_ot hZ.1 hZ.2.1 hS (hL.size.trans hml.symm) dX10_led_42 dX10_led_45 dX10_led_46 dX10_led_49 dX10_led_52 (fun x hx => by rw [htb] at hx; cases hx) (by decide) (by show 0 + (13 * (2 + 1) + 43) ≤ 64 * 13; decide) (by decide) (by decide) hlocks ?_ hS.2.2 (by decide) (by decide)
  intro t hv h1 h2
  exact ⟨rfl, hP.kept (fun k q hk => h2 q.1 (vx_lt hP hk)), ⟨Nat.le_trans hS.1 h1, fun q q1 q2 => (h2 q (Nat.lt_of_lt_of_le q1 hS.1)).trans (hS.2.1 q q1 q2)⟩⟩
theorem ge_led {h : gH} {t : Nat} {T S : Nat → Nat} {a : Int} (hQ : XQ h t T S) (ha : inB a) (hne : ldF T S a = -2) : ∀ m b, b + m = T 4 → fstN (ldP S a) b = -2 → gE RX10 cX10_led 4 (some .int) 13 [] 4 [some (.ref 0), some (.int (zI a)), some (.int (zI (gcN S b : Int))), some (.int (zI (b : Int)))] [] h (ldP1 h) := by
  obtain ⟨ht, hP, hF, hB, -⟩ := id hQ
  obtain ⟨s0, -⟩ := shT ht
  have ha' := ha
  unfold inB at ha'
  intro m
  induction m with
  | zero =>
    intro b hb hf
    have e4 : b = T 4 := by omega
    refine ge_iload_n (pc' := 5) dX10_led_4 rfl rfl ?_
    refine ge_aload_n (pc' := 6) dX10_led_5 rfl rfl ?_
    refine ge_get (pc' := 9) (C := RX10) (T := TX10) (N := 10) (ci := 9) (k := 6) iX10g rfl (by decide) (Or.inl (gtb_at 361 (by decide +kernel) rfl)) (by rfl) rfl dX10_led_6 rfl ?_
    show gE _ _ _ _ _ _ _ _ (.ref (h.2.2 0) :: _) _ _
    rw [hP]
    refine ge_get (pc' := 12) (C := RX9) (T := TX9) (N := 15) (ci := 8) (k := 4) iX9g rfl (by decide) (Or.inr ⟨"GrudgeLoft", gtb_at 161 (by decide +kernel) rfl⟩) s0 rfl dX10_led_9 rfl ?_
    show gE _ _ _ _ _ _ _ _ (.int (zI (h.1 t 4)) :: _) _ _
    rw [hF.2.1]
    refine ge_icmp_ge (pc' := 15) (tgt := 42) dX10_led_12 (by decide) rfl (by omega) (fun _ => ?_) (fun c12 => ?_)
    · exact ge_throw
    · exfalso; omega
  | succ m ih =>
    intro b hb hf
    have hI := hQ.ci (by omega)
    have hgl := gcN_le S b
    refine ge_iload_n (pc' := 5) dX10_led_4 rfl rfl ?_
    refine ge_aload_n (pc' := 6) dX10_led_5 rfl rfl ?_
    refine ge_get (pc' := 9) (C := RX10) (T := TX10) (N := 10) (ci := 9) (k := 6) iX10g rfl (by decide) (Or.inl (gtb_at 361 (by decide +kernel) rfl)) (by rfl) rfl dX10_led_6 rfl ?_
    show gE _ _ _ _ _ _ _ _ (.ref (h.2.2 0) :: _) _ _
    rw [hP]
    refine ge_get (pc' := 12) (C := RX9) (T := TX9) (N := 15) (ci := 8) (k := 4) iX9g rfl (by decide) (Or.inr ⟨"GrudgeLoft", gtb_at 161 (by decide +kernel) rfl⟩) s0 rfl dX10_led_9 rfl ?_
    show gE _ _ _ _ _ _ _ _ (.int (zI (h.1 t 4)) :: _) _ _
    rw [hF.2.1]
    refine ge_icmp_ge (pc' := 15) (tgt := 42) dX10_led_12 (by decide) rfl (by omega) (fun c12 => ?_) (fun c12 => ?_)
    · exfalso; omega
    refine ge_aload_n (pc' := 16) dX10_led_15 rfl rfl ?_
    refine ge_get (pc' := 19) (C := RX10) (T := TX10) (N := 10) (ci := 9) (k := 1) iX10g rfl (by decide) (Or.inl (gtb_at 356 (by decide +kernel) rfl)) (by rfl) rfl dX10_led_16 rfl ?_
    show gE _ _ _ _ _ _ _ _ (.ref 52 :: _) _ _
    refine ge_iload_n (pc' := 20) dX10_led_19 rfl rfl ?_
    refine ge_callV (pc' := 23) (C := RX3) (ci := 2) (rest := []) (s_isGone (b := b) hI (by omega)) ok_X3_isGone (gtb_at 1203 (by decide +kernel) rfl) (gtb_at 673 (by decide +kernel) rfl) (gtb_at 674 (by decide +kernel) rfl) (gtb_at 6 (by decide +kernel) rfl) wc_X3_isGone (by decide) rfl (by rfl) (by decide) rfl (by decide) dX10_led_20 rfl (fun v h' q9 => ?_)
    obtain ⟨rfl, rfl⟩ := q9
    show gE _ _ _ _ _ _ _ _ (.int (zI (bI (sGone S b))) :: _) _ _
    have es := fstN_s (ldP S a) b
    have eg : gcN S (b + 1) = gcN S b + (sGone S b).toNat := rfl
    have hnh : ldP S a b = false := by
      cases q : ldP S a b with
      | false => rfl
      | true =>
        have e := fstN_hit hf q (show b < T 4 by omega)
        unfold ldF at hne
        omega
    have hf' : fstN (ldP S a) (b + 1) = -2 := by rw [es, hnh, if_neg (by simp)]; exact hf
    have w := ih (b + 1) (by omega) hf'
    cases c23 : sGone S b with
    | false =>
      refine ge_if_eq (pc' := 26) (tgt := 36) dX10_led_23 (by decide) rfl (by decide) (fun _ => ?_) (fun z => absurd rfl z)
      refine ge_iinc (pc' := 39) (a := (b : Int)) dX10_led_36 rfl rfl (by decide) ?_
      refine ge_goto (pc' := 4) dX10_led_39 (by decide) ?_
      rw [eg, c23] at w
      exact ge_wk w (by exact ⟨rfl, rfl, rfl, rfl, True.intro⟩)
    | true =>
      refine ge_if_eq (pc' := 26) (tgt := 36) dX10_led_23 (by decide) rfl (by decide) (fun z => absurd z (by decide)) (fun _ => ?_)
      have hna : ((gcN S b : Int)) ≠ a := fun z => by
        unfold ldP at hnh
        rw [c23, decide_eq_true z] at hnh
        exact absurd hnh (by decide)
      refine ge_iload_n (pc' := 27) dX10_led_26 rfl rfl ?_
      refine ge_iload_n (pc' := 28) dX10_led_27 rfl rfl ?_
      refine ge_icmp_ne (pc' := 31) (tgt := 33) dX10_led_28 (by decide) rfl (by omega) (fun _ => ?_) (fun z => absurd z hna)
      refine ge_iinc (pc' := 36) (a := (gcN S b : Int)) dX10_led_33 rfl rfl (by decide) ?_
      refine ge_iinc (pc' := 39) (a := (b : Int)) dX10_led_36 rfl rfl (by decide) ?_
      refine ge_goto (pc' := 4) dX10_led_39 (by decide) ?_
      rw [eg, c23] at w
      exact ge_wk w (by exact ⟨rfl, rfl, rfl, rfl, True.intro⟩)
def ePre (D : va_G) (aC : Nat → ClassId) (ad : Nat → Nat) (sz : Nat) (h : gH) (U : State) : Prop := gPre D aC ad sz h U ∧ Zqs (gA ad sz) U U.heap
theorem exD_moved {u U : State} {X : String} (hvm : u.vm.Alike U.vm) (h : va_Nw (exD X) u) : va_Nw (exD X) U := va_tabs rfl (rfl : (u.setVm U.vm).vm = U.vm) (by unfold exD; rw [Cond.declares_setVm hvm]; exact h)
theorem Zqs.moved {A : Nat → Prop} {u U : State} {H : Heap} (hvm : u.vm.Alike U.vm) (h : Zqs A u H) : Zqs A U H := ⟨vx_Zq.moved hvm h.1, vx_Zq.moved hvm h.2.1, va_tabs rfl (rfl : (u.setVm U.vm).vm = U.vm) (by unfold exC; rw [Cond.castable_setVm hvm]; exact h.2.2.1), exD_moved hvm h.2.2.2.1, exD_moved hvm h.2.2.2.2.1, exD_moved hvm h.2.2.2.2.2⟩
theorem Zqs.kept {A : Nat → Prop} {U : State} {H H1 : Heap} (h : Zqs A U H) (hq : ∀ a : Nat, a < H.size → ¬ A a → H1[a]? = H[a]?) : Zqs A U H1 := ⟨vx_Zq.kept h.1 hq, vx_Zq.kept h.2.1 hq, h.2.2⟩
theorem Zqs.narrow {A B : Nat → Prop} {U : State} {H : Heap} (h : Zqs A U H) (hAB : ∀ q, B q → A q) : Zqs B U H := ⟨vx_Zq.narrow h.1 hAB, vx_Zq.narrow h.2.1 hAB, h.2.2⟩
theorem ePre_blind {D : va_G} {aC : Nat → ClassId} {ad : Nat → Nat} {sz : Nat} {h : gH} {av : List Value} : FrameBlind (va_Pc av (ePre D aC ad sz h)) := by
  intro a U g mk q
  obtain ⟨q0, ⟨q1, q2, q3, q4⟩, q5⟩ := q
  exact ⟨q0, ⟨q1, q2, va_K.moved (u := U) (U := U.calling g mk a) (Vm.Alike.refl U.vm) q3, q4.call g mk a⟩, Zqs.moved (u := U) (U := U.calling g mk a) (Vm.Alike.refl U.vm) q5⟩
theorem x_ledX {h : gH} {t : Nat} {T S : Nat → Nat} {a : Int} (hQ : XQ h t T S) (ha : inB a) (hne : ldF T S a = -2) (l : Launch) (D : va_G) (aC : Nat → ClassId) (ad : Nat → Nat) (sz : Nat) (hinj : gInj ad) (hl9 : l.stackTraces = false) : vx_Met l yX10_led (Cond.code yX10_led cX10_led 4 (some .int) :: gtb) (rmE 13) (va_Pc [.ref (ad 0), .int (zI a)] (ePre D aC ad sz h)) (fun _ _ _ _ => False) (ldXC D aC ad h (gA ad sz)) 1 6 (gA ad sz) := by
  refine vx_ofW (cc := cX10_led) (maxL := 4) (ret := some .int) (by decide +kernel) rfl ?_
  intro p e s m argsA below meth c s₁ B hml htb hv
  obtain ⟨rfl, ⟨hsz, hP, hK, hX⟩, hZ⟩ := hv
  have hts : ∀ w ∈ gtb, w.before (([Value.ref (ad 0), .int (zI a)]).toArray) s = true := fun w hw => atoms_spec (ws := Cond.code yX10_led cX10_led 4 (some .int) :: gtb) B.pre w (List.mem_cons_of_mem _ hw)
  have hown : s.vm.findClass RX10 = some m.cls := findClass_of_methodNamed B.named
  subst hsz
  have hl := lv_entry ([Value.ref (ad 0), .int (zI a)]) (n := 4) (by show 2 ≤ 4; decide)
  rw [lg_entry_eq]
  have htb' : c.exceptionTable.toList = [] := by
    cases q : c.exceptionTable.toList with
    | nil => rfl
    | cons x xs => exact (htb x (by rw [q]; exact List.mem_cons_self)).elim
  have w : gE RX10 cX10_led 4 (some .int) 13 [] 0 [some (.ref 0), some (.int (zI a)), none, none] [] h (ldP1 h) := by
    refine ge_iconst (pc' := 1) dX10_led_0 rfl ?_
    refine ge_istore_n (pc' := 2) dX10_led_1 rfl (by decide) ?_
    refine ge_iconst (pc' := 3) dX10_led_2 rfl ?_
    refine ge_istore_n (pc' := 4) dX10_led_3 rfl (by decide) ?_
    exact ge_wk (ge_led hQ ha hne (T 4) 0 (by omega) rfl) (by exact ⟨rfl, rfl, rfl, rfl, True.intro⟩)
  refine w p l e s m _ below meth c D aC ad ⟨⟨B.exec, B.bytes, hml, B.returns, hown, hts, B.notSynchronized, hK, hinj, hX⟩, hl9, hZ, htb'⟩ s.heap [] _ hP va_S.rf ⟨_, hl, fun i v hi => ?_⟩
  match i with
  | 0 => cases hi; exact List.mem_cons_self
  | 1 => cases hi; exact List.mem_cons_of_mem _ List.mem_cons_self
  | 2 => cases hi
  | 3 => cases hi
  | i + 4 => cases hi
