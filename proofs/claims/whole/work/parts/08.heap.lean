/-! rows of gJ over the heap, ends, calls -/
section HEAP
variable {own : String} {cc : ByteArray} {nL : Nat} {rt : Option FieldType} {d pc pc' : Nat} {ls : List (Option Value)} {st : List Value} {h : gH} {Q : Option Value → gH → Prop}
theorem gcell_L {aC : Nat → ClassId} {ad : Nat → Nat} {h : gH} {o ci : Nat} {ks : List (Nat × Nat)} (hs : shp o = .inl (ci, ks)) : gcell aC ad h o = .inr (ci, (gfs (h.1 o) (h.2.1 o) h.2.2 0 ks).map (gv ad)) := by
  simp only [gcell, hs, gcel]
theorem gcell_R {aC : Nat → ClassId} {ad : Nat → Nat} {h : gH} {o t n b s : Nat} (hs : shp o = .inr (t, n, b, s)) : gcell aC ad h o = .inl (aC t, n, garr ad (h.1 o) (h.2.1 o) t b s) := by
  simp only [gcell, hs, gcel]
theorem gcell_eq {aC : Nat → ClassId} {ad : Nat → Nat} {h h' : gH} {o : Nat} (h1 : h'.1 o = h.1 o) (h2 : h'.2.1 o = h.2.1 o) (h3 : h'.2.2 = h.2.2) : gcell aC ad h' o = gcell aC ad h o := by
  simp only [gcell, h1, h2, h3]
theorem gj_get {C : String} {T : u_T} {N ci index o k : Nat} {ks : List (Nat × Nat)} {a : Nat × Nat} (hin : ∀ w ∈ u_ws C T N, w ∈ gtb) (hc : vwCl[ci]? = some (C, T, N)) (hk : k < N) (hlink : (Cond.fieldLink own index (T k).1 (T k).2.1 (T k).2.2.1) ∈ gtb ∨ ∃ host, (Cond.fieldLinkNest own index (T k).1 (T k).2.1 (T k).2.2.1 host) ∈ gtb) (hs : shp o = .inl (ci, ks)) (hka : ks[k]? = some a) (hd : decode cc pc = .ok (.getfield index, 3)) (hp : pc + 3 = pc') (kk : gJ own cc nL rt d pc' ls (gfv (h.1 o) (h.2.1 o) h.2.2 k a :: st) h Q) : gJ own cc nL rt d pc ls (.ref o :: st) h Q := by
  subst hp
  intro p l e s m args below meth c D aC ad C0 H locs lsA hP hS hL
  obtain ⟨hx, hb, hml, hr, hown, hts, hlocks, hK, hinj, hX⟩ := id C0
  have he : (gw aC ad h)[o]? = some (ad o, .inr (ci, (gfs (h.1 o) (h.2.1 o) h.2.2 0 ks).map (gv ad))) := by rw [gw_at (shp_ltL hs), gcell_L hs]
  have hv : ((gfs (h.1 o) (h.2.1 o) h.2.2 0 ks).map (gv ad))[k]? = some (gv ad (gfv (h.1 o) (h.2.1 o) h.2.2 k a)) := by
    rw [List.getElem?_map, gfs_get, hka, Nat.zero_add]; rfl
  have kk' := kk p l e s m args below meth c D aC ad C0 H locs lsA hP hS hL
  rcases hlink with hl | ⟨host, hl⟩
  · exact va_get (D := D) (ci := ci) (C := C) (T := T) (N := N) hx hb hts hin hown hK hP o he hc k hk (hts _ hl) (fun _ q => q) hv hd kk'
  · exact va_getN (D := D) (ci := ci) (C := C) (T := T) (N := N) hx hb hts hin hown hK hP o he hc k hk (hts _ hl) (fun _ q => q) hv hd kk'
theorem gfs_up {I L : Nat → Int} {P : Nat → Nat} {k a : Nat} {x : Int} {ks : List (Nat × Nat)} (hka : ks[k]? = some (0, a)) : gfs (up1 I k x) L P 0 ks = (gfs I L P 0 ks).set k (.int (zI x)) := by
  apply List.ext_getElem?
  intro j
  have hl : k < ks.length := (List.getElem?_eq_some_iff.mp hka).1
  rw [gfs_get, List.getElem?_set, gfs_get, gfs_len, Nat.zero_add]
  by_cases e : k = j
  · subst e
    rw [if_pos rfl, if_pos hl, hka]
    show some (Value.int (zI (up1 I k x k))) = _
    rw [up1_s]
  · rw [if_neg e]
    cases ks[j]? with
    | none => rfl
    | some b =>
      show some (gfv (up1 I k x) L P j b) = some (gfv I L P j b)
      unfold gfv
      split <;> first | rfl | rw [up1_n (fun q => e q.symm)]
theorem gfs_upL {I L : Nat → Int} {P : Nat → Nat} {k a : Nat} {x : Int} {ks : List (Nat × Nat)} (hka : ks[k]? = some (1, a)) : gfs I (up1 L k x) P 0 ks = (gfs I L P 0 ks).set k (.long (zL x)) := by
  apply List.ext_getElem?
  intro j
  have hl : k < ks.length := (List.getElem?_eq_some_iff.mp hka).1
  rw [gfs_get, List.getElem?_set, gfs_get, gfs_len, Nat.zero_add]
  by_cases e : k = j
  · subst e
    rw [if_pos rfl, if_pos hl, hka]
    show some (Value.long (zL (up1 L k x k))) = _
    rw [up1_s]
  · rw [if_neg e]
    cases ks[j]? with
    | none => rfl
    | some b =>
      show some (gfv I (up1 L k x) P j b) = some (gfv I L P j b)
      unfold gfv
      split <;> first | rfl | rw [up1_n (fun q => e q.symm)]
theorem gcell_ne {aC : Nat → ClassId} {ad : Nat → Nat} {h : gH} {o k j : Nat} {x : Int} (hj : j ≠ o) : gcell aC ad (gui h o k x) j = gcell aC ad h j := gcell_eq (u2_n hj) rfl rfl
theorem gcell_neL {aC : Nat → ClassId} {ad : Nat → Nat} {h : gH} {o k j : Nat} {x : Int} (hj : j ≠ o) : gcell aC ad (gul h o k x) j = gcell aC ad h j := gcell_eq rfl (u2_n hj) rfl
theorem gj_put {C : String} {T : u_T} {N ci index o k : Nat} {ks : List (Nat × Nat)} {v : Value} {h' : gH} {ty : FieldType} (ty0 : Nat → FieldType) (hty : ∀ k, k < N → parseFieldDescriptor (T k).2.2.1 = some (ty0 k)) (hnm : ∀ a, a < N → ∀ b, b < N → a ≠ b → (T a).2.1 ≠ (T b).2.1) (hin : ∀ w ∈ u_ws C T N, w ∈ gtb) (hc : vwCl[ci]? = some (C, T, N)) (hk : k < N) (hfin : (T k).2.2.2 = false) (hd2 : parseFieldDescriptor (T k).2.2.1 = some ty) (hlink : (Cond.fieldLink own index (T k).1 (T k).2.1 (T k).2.2.1) ∈ gtb ∨ ∃ host, (Cond.fieldLinkNest own index (T k).1 (T k).2.1 (T k).2.2.1 host) ∈ gtb) (hs : shp o = .inl (ci, ks)) (hkl : k < ks.length)
    (hn : ∀ ad, narrow ty (gv ad v) = gv ad v) (hfit : ∀ ad, fits ty (gv ad v) = true) (hset : ∀ aC ad, gcell aC ad h' o = .inr (ci, ((gfs (h.1 o) (h.2.1 o) h.2.2 0 ks).map (gv ad)).set k (gv ad v))) (hoth : ∀ aC ad j, j < NN → j ≠ o → gcell aC ad h' j = gcell aC ad h j)
    (hd : decode cc pc = .ok (.putfield index, 3)) (hp : pc + 3 = pc') (kk : gJ own cc nL rt d pc' ls st h' Q) : gJ own cc nL rt d pc ls (v :: .ref o :: st) h Q := by
  subst hp
  intro p l e s m args below meth c D aC ad C0 H locs lsA hP hS hL
  obtain ⟨hx, hb, hml, hr, hown, hts, hlocks, hK, hinj, hX⟩ := id C0
  have he : (gw aC ad h)[o]? = some (ad o, .inr (ci, (gfs (h.1 o) (h.2.1 o) h.2.2 0 ks).map (gv ad))) := by rw [gw_at (shp_ltL hs), gcell_L hs]
  have hl2 : k < ((gfs (h.1 o) (h.2.1 o) h.2.2 0 ks).map (gv ad)).length := by rw [List.length_map, gfs_len]; exact hkl
  have key : ∀ (H1 : Heap) (locs1 : List Loc), va_P D vwCl ((gw aC ad h).set o (ad o, .inr (ci, ((gfs (h.1 o) (h.2.1 o) h.2.2 0 ks).map (gv ad)).set k (gv ad v)))) H1 → va_D (gA ad s.heap.size) ((gw aC ad h).set o (ad o, .inr (ci, ((gfs (h.1 o) (h.2.1 o) h.2.2 0 ks).map (gv ad)).set k (gv ad v)))) → va_S (gA ad s.heap.size) s.heap H1 locs1 → W p l e (rmD d) s m args below meth c H1 locs1 0 0 (MQ below (gQm D aC ad (gA ad s.heap.size) Q) args s 0 0 (gA ad s.heap.size)) (F0 m (pc + 3) lsA (st.map (gv ad))) := by
    intro H1 locs1 hP1 hD1 hS1
    rw [gw_set (hset aC ad) (hoth aC ad)] at hP1
    exact kk p l e s m args below meth c D aC ad C0 H1 locs1 lsA hP1 hS1 hL
  rcases hlink with hl | ⟨host, hl⟩
  · exact va_put (D := D) (ci := ci) (C := C) (T := T) (N := N) hx hb hts hin ty0 hty hnm hown hK hP (gw_D hinj) hS o he hc k hk (hts _ hl) (fun _ q => q) hfin hd2 (hn ad) (hfit ad) hl2 hd key
  · exact va_putN (D := D) (ci := ci) (C := C) (T := T) (N := N) hx hb hts hin ty0 hty hnm hown hK hP (gw_D hinj) hS o he hc k hk (hts _ hl) (fun _ q => q) hfin hd2 (hn ad) (hfit ad) hl2 hd key
theorem map_set_gv {ad : Nat → Nat} {l : List Value} {k : Nat} {v : Value} : (l.set k v).map (gv ad) = (l.map (gv ad)).set k (gv ad v) := List.map_set
theorem gj_putI {C : String} {T : u_T} {N ci index o k a : Nat} {ks : List (Nat × Nat)} {x : Int} {ty : FieldType} (ty0 : Nat → FieldType) (hty : ∀ k, k < N → parseFieldDescriptor (T k).2.2.1 = some (ty0 k)) (hnm : ∀ a, a < N → ∀ b, b < N → a ≠ b → (T a).2.1 ≠ (T b).2.1) (hin : ∀ w ∈ u_ws C T N, w ∈ gtb) (hc : vwCl[ci]? = some (C, T, N)) (hk : k < N) (hfin : (T k).2.2.2 = false) (hd2 : parseFieldDescriptor (T k).2.2.1 = some ty) (hlink : (Cond.fieldLink own index (T k).1 (T k).2.1 (T k).2.2.1) ∈ gtb ∨ ∃ host, (Cond.fieldLinkNest own index (T k).1 (T k).2.1 (T k).2.2.1 host) ∈ gtb) (hs : shp o = .inl (ci, ks)) (hka : ks[k]? = some (0, a))
    (hn : narrow ty (.int (zI x)) = .int (zI x)) (hfit : fits ty (.int (zI x)) = true) (hd : decode cc pc = .ok (.putfield index, 3)) (hp : pc + 3 = pc') (kk : gJ own cc nL rt d pc' ls st (gui h o k x) Q) : gJ own cc nL rt d pc ls (.int (zI x) :: .ref o :: st) h Q :=
  gj_put (v := .int (zI x)) (h' := gui h o k x) ty0 hty hnm hin hc hk hfin hd2 hlink hs (List.getElem?_eq_some_iff.mp hka).1 (fun _ => hn) (fun _ => hfit) (fun aC ad => by
    rw [gcell_L hs, ← map_set_gv, ← gfs_up hka]
    show _ = Sum.inr (ci, (gfs (up1 (h.1 o) k x) (h.2.1 o) h.2.2 0 ks).map (gv ad))
    rw [← u2_s (f := h.1)]
    rfl) (fun aC ad j _ hj => gcell_ne hj) hd hp kk
theorem gj_putL {C : String} {T : u_T} {N ci index o k a : Nat} {ks : List (Nat × Nat)} {x : Int} (ty0 : Nat → FieldType) (hty : ∀ k, k < N → parseFieldDescriptor (T k).2.2.1 = some (ty0 k)) (hnm : ∀ a, a < N → ∀ b, b < N → a ≠ b → (T a).2.1 ≠ (T b).2.1) (hin : ∀ w ∈ u_ws C T N, w ∈ gtb) (hc : vwCl[ci]? = some (C, T, N)) (hk : k < N) (hfin : (T k).2.2.2 = false) (hd2 : parseFieldDescriptor (T k).2.2.1 = some .long) (hlink : (Cond.fieldLink own index (T k).1 (T k).2.1 (T k).2.2.1) ∈ gtb ∨ ∃ host, (Cond.fieldLinkNest own index (T k).1 (T k).2.1 (T k).2.2.1 host) ∈ gtb) (hs : shp o = .inl (ci, ks)) (hka : ks[k]? = some (1, a))
    (hd : decode cc pc = .ok (.putfield index, 3)) (hp : pc + 3 = pc') (kk : gJ own cc nL rt d pc' ls st (gul h o k x) Q) : gJ own cc nL rt d pc ls (.long (zL x) :: .ref o :: st) h Q :=
  gj_put (v := .long (zL x)) (h' := gul h o k x) ty0 hty hnm hin hc hk hfin hd2 hlink hs (List.getElem?_eq_some_iff.mp hka).1 (fun _ => rfl) (fun _ => rfl) (fun aC ad => by
    rw [gcell_L hs, ← map_set_gv, ← gfs_upL hka]
    show _ = Sum.inr (ci, (gfs (h.1 o) (up1 (h.2.1 o) k x) h.2.2 0 ks).map (gv ad))
    rw [← u2_s (f := h.2.1)]
    rfl) (fun aC ad j _ hj => gcell_neL hj) hd hp kk
-- the refs that change
def gnoP (a : Nat) : gSh → Bool
  | .inl (_, ks) => ks.all (fun q => !(q.1 == 3 && q.2 == a))
  | .inr _ => true
theorem gfs_P {I L : Nat → Int} {P P' : Nat → Nat} {a : Nat} (hP : ∀ b, b ≠ a → P' b = P b) : ∀ (ks : List (Nat × Nat)) (k : Nat), (∀ q ∈ ks, (!(q.1 == 3 && q.2 == a)) = true ∧ q.1 < 4) → gfs I L P' k ks = gfs I L P k ks
  | [], _, _ => rfl
  | q :: ks, k, hq => by
    unfold gfs
    rw [gfs_P hP ks (k + 1) (fun z hz => hq z (List.mem_cons_of_mem _ hz))]
    congr 1
    obtain ⟨h1, h2⟩ := hq q List.mem_cons_self
    obtain ⟨t, b⟩ := q
    unfold gfv
    match t, h2 with
    | 0, _ => rfl
    | 1, _ => rfl
    | 2, _ => rfl
    | 3, _ =>
      show Value.ref (P' b) = Value.ref (P b)
      rw [hP b (by intro e; subst e; simp at h1)]
    | t + 4, h2 => exact absurd h2 (by show ¬ t + 4 < 4; omega)
def gonP (o a : Nat) : Bool := (List.range NN).all (fun j => j == o || (match shp j with
  | .inl (_, ks) => ks.all (fun q => !(q.1 == 3 && q.2 == a) && decide (q.1 < 4))
  | .inr _ => true))
theorem gonP0 : gonP 0 0 = true := by decide +kernel
theorem gonP1 : gonP 1 1 = true := by decide +kernel
theorem gcell_P {aC : Nat → ClassId} {ad : Nat → Nat} {h : gH} {o a x j : Nat} (hon : gonP o a = true) (hj : j < NN) (hjo : j ≠ o) : gcell aC ad (gup h a x) j = gcell aC ad h j := by
  have h1 := List.all_eq_true.mp hon j (List.mem_range.mpr hj)
  simp only [Bool.or_eq_true, beq_iff_eq, hjo, false_or] at h1
  cases hs : shp j with
  | inl y =>
    obtain ⟨ci, ks⟩ := y
    rw [hs] at h1
    rw [gcell_L hs, gcell_L hs]
    have e : gfs ((gup h a x).1 j) ((gup h a x).2.1 j) (gup h a x).2.2 0 ks = gfs (h.1 j) (h.2.1 j) h.2.2 0 ks := by
      refine gfs_P (a := a) (fun b hb => if_neg hb) ks 0 (fun q hq => ?_)
      have h2 := List.all_eq_true.mp h1 q hq
      simp only [Bool.and_eq_true, decide_eq_true_eq] at h2
      exact h2
    rw [e]
  | inr y =>
    obtain ⟨t, n, b, s⟩ := y
    rw [gcell_R hs, gcell_R hs]
    rfl
theorem gfs_upP {I L : Nat → Int} {P : Nat → Nat} {k a x : Nat} : ∀ (ks : List (Nat × Nat)) (k0 : Nat), ks[k]? = some (3, a) → (∀ j q, ks[j]? = some q → j ≠ k → (!(q.1 == 3 && q.2 == a)) = true ∧ q.1 < 4) → gfs I L (fun b => if b = a then x else P b) k0 ks = (gfs I L P k0 ks).set k (.ref x) := by
  intro ks k0 hka hq
  apply List.ext_getElem?
  intro j
  have hl : k < ks.length := (List.getElem?_eq_some_iff.mp hka).1
  rw [gfs_get, List.getElem?_set, gfs_get, gfs_len]
  by_cases e : k = j
  · subst e
    rw [if_pos rfl, if_pos hl, hka]
    show some (Value.ref (if a = a then x else P a)) = _
    rw [if_pos rfl]
  · rw [if_neg e]
    cases hj : ks[j]? with
    | none => rfl
    | some b =>
      obtain ⟨h1, h2⟩ := hq j b hj (fun q => e q.symm)
      obtain ⟨t, b⟩ := b
      show some (gfv I L (fun b => if b = a then x else P b) (k0 + j) (t, b)) = some (gfv I L P (k0 + j) (t, b))
      unfold gfv
      match t, h2 with
      | 0, _ => rfl
      | 1, _ => rfl
      | 2, _ => rfl
      | 3, _ =>
        show some (Value.ref (if b = a then x else P b)) = some (Value.ref (P b))
        rw [if_neg (by intro e; subst e; simp at h1)]
      | t + 4, h2 => exact absurd h2 (by show ¬ t + 4 < 4; omega)
theorem gj_putP {C : String} {T : u_T} {N ci index o k a x : Nat} {ks : List (Nat × Nat)} {nm : String} (ty0 : Nat → FieldType) (hty : ∀ k, k < N → parseFieldDescriptor (T k).2.2.1 = some (ty0 k)) (hnm : ∀ a, a < N → ∀ b, b < N → a ≠ b → (T a).2.1 ≠ (T b).2.1) (hin : ∀ w ∈ u_ws C T N, w ∈ gtb) (hc : vwCl[ci]? = some (C, T, N)) (hk : k < N) (hfin : (T k).2.2.2 = false) (hd2 : parseFieldDescriptor (T k).2.2.1 = some (.object nm)) (hlink : (Cond.fieldLink own index (T k).1 (T k).2.1 (T k).2.2.1) ∈ gtb ∨ ∃ host, (Cond.fieldLinkNest own index (T k).1 (T k).2.1 (T k).2.2.1 host) ∈ gtb) (hs : shp o = .inl (ci, ks)) (hka : ks[k]? = some (3, a)) (hon : gonP o a = true)
    (hq : ∀ j q, ks[j]? = some q → j ≠ k → (!(q.1 == 3 && q.2 == a)) = true ∧ q.1 < 4)
    (hd : decode cc pc = .ok (.putfield index, 3)) (hp : pc + 3 = pc') (kk : gJ own cc nL rt d pc' ls st (gup h a x) Q) : gJ own cc nL rt d pc ls (.ref x :: .ref o :: st) h Q :=
  gj_put (v := .ref x) (h' := gup h a x) ty0 hty hnm hin hc hk hfin hd2 hlink hs (List.getElem?_eq_some_iff.mp hka).1 (fun _ => rfl) (fun _ => rfl) (fun aC ad => by
    rw [gcell_L hs, ← map_set_gv, ← gfs_upP ks 0 hka hq]
    rfl) (fun aC ad j hj hjo => gcell_P hon hj hjo) hd hp kk
-- arrays
theorem gty0 {aC : Nat → ClassId} : (gtys aC)[0]? = some (aC 0, .int) := rfl
theorem gj_iald {o n b t : Nat} {i : Int} {j : Nat} (hs : shp o = .inr (0, n, b, t)) (hij : i = (j : Int)) (hj : j < n) (hn : n < 100000) (hd : decode cc pc = .ok (.iaload, 1)) (hp : pc + 1 = pc') (kk : gJ own cc nL rt d pc' ls (.int (zI (h.1 o j)) :: st) h Q) : gJ own cc nL rt d pc ls (.int (zI i) :: .ref o :: st) h Q := by
  subst hp; subst hij
  intro p l e s m args below meth c D aC ad C0 H locs lsA hP hS hL
  obtain ⟨hx, hb, hml, hr, hown, hts, hlocks, hK, hinj, hX⟩ := id C0
  have ha : (gw aC ad h)[o]? = some (ad o, .inl (aC 0, n, .inl (fun j => zI (h.1 o j)))) := by rw [gw_at (shp_ltR hs (by omega)), gcell_R hs]; rfl
  refine va_iald (D := D) hx hb hK hP o 0 ha rfl (i := zI j) (zI_in ⟨by omega, by omega⟩ (by omega)) hd ?_
  rw [zI_clamp (by omega), Int.toNat_natCast]
  exact kk p l e s m args below meth c D aC ad C0 H locs lsA hP hS hL
theorem gj_bald {o n b t : Nat} {i : Int} {j : Nat} (hs : shp o = .inr (1, n, b, t)) (hij : i = (j : Int)) (hj : j < n) (hn : n < 100000) (hd : decode cc pc = .ok (.baload, 1)) (hp : pc + 1 = pc') (kk : gJ own cc nL rt d pc' ls (.int (zI (h.1 o j)) :: st) h Q) : gJ own cc nL rt d pc ls (.int (zI i) :: .ref o :: st) h Q := by
  subst hp; subst hij
  intro p l e s m args below meth c D aC ad C0 H locs lsA hP hS hL
  obtain ⟨hx, hb, hml, hr, hown, hts, hlocks, hK, hinj, hX⟩ := id C0
  have ha : (gw aC ad h)[o]? = some (ad o, .inl (aC 1, n, .inl (fun j => zI (h.1 o j)))) := by rw [gw_at (shp_ltR hs (by omega)), gcell_R hs]; rfl
  refine va_bald (D := D) hx hb hK hP o 1 ha rfl (i := zI j) (zI_in ⟨by omega, by omega⟩ (by omega)) hd ?_
  rw [zI_clamp (by omega), Int.toNat_natCast]
  exact kk p l e s m args below meth c D aC ad C0 H locs lsA hP hS hL
theorem gj_lald {o n b t : Nat} {i : Int} {j : Nat} (hs : shp o = .inr (2, n, b, t)) (hij : i = (j : Int)) (hj : j < n) (hn : n < 100000) (hd : decode cc pc = .ok (.laload, 1)) (hp : pc + 1 = pc') (kk : gJ own cc nL rt d pc' ls (.long (zL (h.2.1 o j)) :: st) h Q) : gJ own cc nL rt d pc ls (.int (zI i) :: .ref o :: st) h Q := by
  subst hp; subst hij
  intro p l e s m args below meth c D aC ad C0 H locs lsA hP hS hL
  obtain ⟨hx, hb, hml, hr, hown, hts, hlocks, hK, hinj, hX⟩ := id C0
  have ha : (gw aC ad h)[o]? = some (ad o, .inl (aC 2, n, .inr (.inl (fun j => zL (h.2.1 o j))))) := by rw [gw_at (shp_ltR hs (by omega)), gcell_R hs]; rfl
  refine va_lald (D := D) hx hb hK hP o 2 ha rfl (i := zI j) (zI_in ⟨by omega, by omega⟩ (by omega)) hd ?_
  rw [zI_clamp (by omega), Int.toNat_natCast]
  exact kk p l e s m args below meth c D aC ad C0 H locs lsA hP hS hL
theorem gj_aald {o n b t : Nat} {i : Int} {j : Nat} (hs : shp o = .inr (3, n, b, t)) (hij : i = (j : Int)) (hj : j < n) (hn : n < 100000) (hd : decode cc pc = .ok (.aaload, 1)) (hp : pc + 1 = pc') (kk : gJ own cc nL rt d pc' ls (.ref (b + t * j) :: st) h Q) : gJ own cc nL rt d pc ls (.int (zI i) :: .ref o :: st) h Q := by
  subst hp; subst hij
  intro p l e s m args below meth c D aC ad C0 H locs lsA hP hS hL
  obtain ⟨hx, hb, hml, hr, hown, hts, hlocks, hK, hinj, hX⟩ := id C0
  have ha : (gw aC ad h)[o]? = some (ad o, .inl (aC 3, n, .inr (.inr (.inr (.inr (fun j => some (ad (b + t * j)))))))) := by rw [gw_at (shp_ltR hs (by omega)), gcell_R hs]; rfl
  refine va_aldq (D := D) hx hb hK hP o 3 ha rfl (i := zI j) (zI_in ⟨by omega, by omega⟩ (by omega)) hd ?_
  rw [zI_clamp (by omega), Int.toNat_natCast]
  exact kk p l e s m args below meth c D aC ad C0 H locs lsA hP hS hL
theorem gj_aald2 {o n b t : Nat} {i : Int} {j : Nat} (hs : shp o = .inr (4, n, b, t)) (hij : i = (j : Int)) (hj : j < n) (hn : n < 100000) (hd : decode cc pc = .ok (.aaload, 1)) (hp : pc + 1 = pc') (kk : gJ own cc nL rt d pc' ls (.ref (b + t * j) :: st) h Q) : gJ own cc nL rt d pc ls (.int (zI i) :: .ref o :: st) h Q := by
  subst hp; subst hij
  intro p l e s m args below meth c D aC ad C0 H locs lsA hP hS hL
  obtain ⟨hx, hb, hml, hr, hown, hts, hlocks, hK, hinj, hX⟩ := id C0
  have ha : (gw aC ad h)[o]? = some (ad o, .inl (aC 4, n, .inr (.inr (.inr (.inr (fun j => some (ad (b + t * j)))))))) := by rw [gw_at (shp_ltR hs (by omega)), gcell_R hs]; rfl
  have hin : vp_in (zI j) n := zI_in ⟨by omega, by omega⟩ (by omega)
  have hlt : (zI j).toNatClampNeg < n := by rw [zI_clamp (by omega), Int.toNat_natCast]; exact hj
  have hrd : (arrV (aC 4) n (fun j => va_rf (some (ad (b + t * j))))).slots[(zI j).toNatClampNeg]? = some (va_rf (some (ad (b + t * (zI j).toNatClampNeg)))) := arrV_read _ _ hlt
  rw [zI_clamp (by omega), Int.toNat_natCast] at hrd
  exact W.aald (v := .ref (ad (b + t * j))) (ty := .array .int) hx hb (hP o _ ha) ((hK.2 4 _ rfl).1 n (fun j => va_rf (some (ad (b + t * j))))) rfl (fun q => by cases q) (by show ¬ (zI j < 0 ∨ (arrV _ _ _).slots.size ≤ _); rw [arrV_size]; exact hin) (by rw [zI_clamp (by omega), Int.toNat_natCast]; exact hrd) rfl rfl hd (kk p l e s m args below meth c D aC ad C0 H locs lsA hP hS hL)
theorem garr_up {ad : Nat → Nat} {I L : Nat → Int} {b t j : Nat} {x : Int} {k : Nat} (hk : k < 2) : garr ad (up1 I j x) L k b t = .inl (upd (fun j => zI (I j)) j (zI x)) := by
  have e : (fun i => zI (up1 I j x i)) = upd (fun j => zI (I j)) j (zI x) := by
    funext i
    unfold up1 upd
    split <;> rfl
  match k, hk with
  | 0, _ => show Sum.inl _ = _; rw [e]
  | 1, _ => show Sum.inl _ = _; rw [e]
theorem gj_iast {o n b t : Nat} {i x : Int} {j : Nat} (hs : shp o = .inr (0, n, b, t)) (hij : i = (j : Int)) (hj : j < n) (hn : n < 100000) (hd : decode cc pc = .ok (.iastore, 1)) (hp : pc + 1 = pc') (kk : gJ own cc nL rt d pc' ls st (gui h o j x) Q) : gJ own cc nL rt d pc ls (.int (zI x) :: .int (zI i) :: .ref o :: st) h Q := by
  subst hp; subst hij
  intro p l e s m args below meth c D aC ad C0 H locs lsA hP hS hL
  obtain ⟨hx, hb, hml, hr, hown, hts, hlocks, hK, hinj, hX⟩ := id C0
  have ha : (gw aC ad h)[o]? = some (ad o, .inl (aC 0, n, .inl (fun j => zI (h.1 o j)))) := by rw [gw_at (shp_ltR hs (by omega)), gcell_R hs]; rfl
  refine va_iast (D := D) hx hb hK hP (gw_D hinj) hS o 0 ha rfl (i := zI j) (x := zI x) (zI_in ⟨by omega, by omega⟩ (by omega)) hd (fun H1 locs1 hP1 hD1 hS1 => ?_)
  rw [zI_clamp (by omega), Int.toNat_natCast] at hP1
  rw [gw_set (h' := gui h o j x) (by
    rw [gcell_R hs]
    show Sum.inl (aC 0, n, garr ad (u2 h.1 o j x o) (h.2.1 o) 0 b t) = _
    rw [u2_s, garr_up (by omega)]) (fun i _ hi => gcell_ne hi)] at hP1
  exact kk p l e s m args below meth c D aC ad C0 H1 locs1 lsA hP1 hS1 hL
theorem zI_b8 {x : Int} (hx : -128 ≤ x ∧ x ≤ 127) : vp_nar .byte (zI x) = zI x := by
  rw [vp_nar_byte, ← Int32.toInt_inj, Int8.toInt_toInt32, Int32.toInt_toInt8, zI_toInt (by omega)]
  exact Int.bmod_eq_of_le (by omega) (by omega)
theorem gj_bast {o n b t : Nat} {i x : Int} {j : Nat} (hs : shp o = .inr (1, n, b, t)) (hij : i = (j : Int)) (hj : j < n) (hn : n < 100000) (hxb : -128 ≤ x ∧ x ≤ 127) (hd : decode cc pc = .ok (.bastore, 1)) (hp : pc + 1 = pc') (kk : gJ own cc nL rt d pc' ls st (gui h o j x) Q) : gJ own cc nL rt d pc ls (.int (zI x) :: .int (zI i) :: .ref o :: st) h Q := by
  subst hp; subst hij
  intro p l e s m args below meth c D aC ad C0 H locs lsA hP hS hL
  obtain ⟨hx, hb, hml, hr, hown, hts, hlocks, hK, hinj, hX⟩ := id C0
  have ha : (gw aC ad h)[o]? = some (ad o, .inl (aC 1, n, .inl (fun j => zI (h.1 o j)))) := by rw [gw_at (shp_ltR hs (by omega)), gcell_R hs]; rfl
  refine va_bast (D := D) hx hb hK hP (gw_D hinj) hS o 1 ha rfl (i := zI j) (x := zI x) (zI_in ⟨by omega, by omega⟩ (by omega)) hd (fun H1 locs1 hP1 hD1 hS1 => ?_)
  rw [zI_clamp (by omega), Int.toNat_natCast, zI_b8 hxb] at hP1
  rw [gw_set (h' := gui h o j x) (by
    rw [gcell_R hs]
    show Sum.inl (aC 1, n, garr ad (u2 h.1 o j x o) (h.2.1 o) 1 b t) = _
    rw [u2_s, garr_up (by omega)]) (fun i _ hi => gcell_ne hi)] at hP1
  exact kk p l e s m args below meth c D aC ad C0 H1 locs1 lsA hP1 hS1 hL
theorem gj_last {o n b t : Nat} {i x : Int} {j : Nat} (hs : shp o = .inr (2, n, b, t)) (hij : i = (j : Int)) (hj : j < n) (hn : n < 100000) (hd : decode cc pc = .ok (.lastore, 1)) (hp : pc + 1 = pc') (kk : gJ own cc nL rt d pc' ls st (gul h o j x) Q) : gJ own cc nL rt d pc ls (.long (zL x) :: .int (zI i) :: .ref o :: st) h Q := by
  subst hp; subst hij
  intro p l e s m args below meth c D aC ad C0 H locs lsA hP hS hL
  obtain ⟨hx, hb, hml, hr, hown, hts, hlocks, hK, hinj, hX⟩ := id C0
  have ha : (gw aC ad h)[o]? = some (ad o, .inl (aC 2, n, .inr (.inl (fun j => zL (h.2.1 o j))))) := by rw [gw_at (shp_ltR hs (by omega)), gcell_R hs]; rfl
  refine va_last (D := D) hx hb hK hP (gw_D hinj) hS o 2 ha rfl (i := zI j) (x := zL x) (zI_in ⟨by omega, by omega⟩ (by omega)) hd (fun H1 locs1 hP1 hD1 hS1 => ?_)
  rw [zI_clamp (by omega), Int.toNat_natCast] at hP1
  rw [gw_set (h' := gul h o j x) (by
    rw [gcell_R hs]
    show (Sum.inl (aC 2, n, Sum.inr (Sum.inl (fun i => zL (u2 h.2.1 o j x o i)))) : va_E) = _
    have e2 : (fun i => zL (u2 h.2.1 o j x o i)) = vp_updL (fun j => zL (h.2.1 o j)) j (zL x) := by
      funext i
      rw [u2_s]
      unfold up1 vp_updL
      split <;> rfl
    rw [e2]) (fun i _ hi => gcell_neL hi)] at hP1
  exact kk p l e s m args below meth c D aC ad C0 H1 locs1 lsA hP1 hS1 hL
theorem gj_alen {o n b t k : Nat} (hs : shp o = .inr (k, n, b, t)) (hk : k < 5) (hd : decode cc pc = .ok (.arraylength, 1)) (hp : pc + 1 = pc') (kk : gJ own cc nL rt d pc' ls (.int (zI (n : Int)) :: st) h Q) : gJ own cc nL rt d pc ls (.ref o :: st) h Q := by
  subst hp
  intro p l e s m args below meth c D aC ad C0 H locs lsA hP hS hL
  obtain ⟨hx, hb, hml, hr, hown, hts, hlocks, hK, hinj, hX⟩ := id C0
  have ha : (gw aC ad h)[o]? = some (ad o, .inl (aC k, n, garr ad (h.1 o) (h.2.1 o) k b t)) := by rw [gw_at (shp_ltR hs (by omega)), gcell_R hs]
  obtain ⟨ty, hty⟩ : ∃ ty, (gtys aC)[k]? = some (aC k, ty) := by
    match k, hk with
    | 0, _ => exact ⟨_, rfl⟩
    | 1, _ => exact ⟨_, rfl⟩
    | 2, _ => exact ⟨_, rfl⟩
    | 3, _ => exact ⟨_, rfl⟩
    | 4, _ => exact ⟨_, rfl⟩
  exact va_alen (D := D) hx hb hK hP o k ha hty (v := zI (n : Int)) rfl hd (kk p l e s m args below meth c D aC ad C0 H locs lsA hP hS hL)
-- ends
theorem gj_iret {x : Int32} (hrt : rt = some .int) (hd : decode cc pc = .ok (.ireturn, 1)) (hq : Q (some (.int x)) h) : gJ own cc nL rt d pc ls [.int x] h Q := by
  intro p l e s m args below meth c D aC ad C0 H locs lsA hP hS hL
  obtain ⟨hx, hb, hml, hr, hown, hts, hlocks, hK, hinj, hX⟩ := id C0
  exact W.iret (v := x) hx hb (hr.trans hrt) (fun t ht hW => ⟨⟨some (.int x), h, rfl, hq, by rw [ht]; exact hP⟩, hS.F ht⟩) hS.2.2 hd hlocks
theorem gj_zret {x : Int32} {ty : FieldType} (hrt : rt = some ty) (hn : narrow ty (.int x) = .int x) (hd : decode cc pc = .ok (.ireturn, 1)) (hq : Q (some (.int x)) h) : gJ own cc nL rt d pc ls [.int x] h Q := by
  intro p l e s m args below meth c D aC ad C0 H locs lsA hP hS hL
  obtain ⟨hx, hb, hml, hr, hown, hts, hlocks, hK, hinj, hX⟩ := id C0
  exact W.zret (v := x) (ty := ty) hx hb (hr.trans hrt) hn (fun t ht hW => ⟨⟨some (.int x), h, rfl, hq, by rw [ht]; exact hP⟩, hS.F ht⟩) hS.2.2 hd hlocks
theorem gj_lret {x : Int64} (hrt : rt = some .long) (hd : decode cc pc = .ok (.lreturn, 1)) (hq : Q (some (.long x)) h) : gJ own cc nL rt d pc ls [.long x] h Q := by
  intro p l e s m args below meth c D aC ad C0 H locs lsA hP hS hL
  obtain ⟨hx, hb, hml, hr, hown, hts, hlocks, hK, hinj, hX⟩ := id C0
  exact W.lret (v := x) hx hb (hr.trans hrt) (fun t ht hW => ⟨⟨some (.long x), h, rfl, hq, by rw [ht]; exact hP⟩, hS.F ht⟩) hS.2.2 hd hlocks
theorem gj_vret (hrt : rt = none) (hd : decode cc pc = .ok (.return_, 1)) (hq : Q none h) : gJ own cc nL rt d pc ls [] h Q := by
  intro p l e s m args below meth c D aC ad C0 H locs lsA hP hS hL
  obtain ⟨hx, hb, hml, hr, hown, hts, hlocks, hK, hinj, hX⟩ := id C0
  exact W.vret hx hb (hr.trans hrt) (fun t ht hW => ⟨⟨none, h, rfl, hq, by rw [ht]; exact hP⟩, hS.F ht⟩) hS.2.2 hd hlocks
-- calls
theorem gA_mono {ad : Nat → Nat} {a b : Nat} (h : a ≤ b) : ∀ q, gA ad b q → gA ad a q := fun q hq => hq.elim Or.inl (fun z => Or.inr (Nat.le_trans h z))
theorem gv_maps {ad : Nat → Nat} {v : Option Value} {l : List Value} : (v.toList ++ l).map (gv ad) = (v.map (gv ad)).toList ++ l.map (gv ad) := by cases v <;> simp
/-- behind a call's run: on with the judgement -/
theorem gj_cont {p : Program} {l : Launch} {e : Env} {s : State} {m : MethodId} {args : Array Value} {below : List Frame} {meth : Method} {c : Code} {D : va_G} {aC : Nat → ClassId} {ad : Nat → Nat} {H : Heap} {locs : List Loc} {lsA : Array Slot} {st0 : List Value} {rest : List Value} {a : Array Value} {Q' : Option Value → gH → Prop} {G : State → Prop} (C0 : gCx own cc nL rt p s m args meth c D aC ad)
    (hr : va_Run p l e (rmD d) s m args below meth c H locs 0 0 0 0 (F0 m pc lsA st0) (rest.map (gv ad)) (gQm D aC ad (gA ad H.size) Q' a) (gA ad H.size)) (hS : va_S (gA ad s.heap.size) s.heap H locs)
    (kk : ∀ (v : Option Value) (h' : gH), Q' v h' → ∀ (H1 : Heap) (locs1 : List Loc), va_P D vwCl (gw aC ad h') H1 → va_S (gA ad s.heap.size) s.heap H1 locs1 → W p l e (rmD d) s m args below meth c H1 locs1 0 0 G (F0 m (pc + 3) lsA ((v.toList ++ rest).map (gv ad)))) : W p l e (rmD d) s m args below meth c H locs 0 0 G (F0 m pc lsA st0) := by
  intro T hT X
  obtain ⟨v, st₀, t, T', L, h0, X', hL2, e1, e2, ⟨⟨v', h', hv, hq', hPw⟩, hz, hk⟩, st9⟩ := hr T hT X
  have hv' : v = v'.map (gv ad) := by cases hv; rfl
  subst hv'
  rw [h0] at hz hk
  have hA := gA_mono (ad := ad) hS.1
  have hS' : va_S (gA ad s.heap.size) s.heap T'.heap (locs ++ L) := ⟨Nat.le_trans hS.1 (by rw [e1]; exact hz), fun q h1 h2 => by rw [e1, hk q (Nat.lt_of_lt_of_le h1 hS.1) (fun z => h2 (hA q z))]; exact hS.2.1 q h1 h2, fun q hq => by
      rcases List.mem_append.mp hq with g | g
      · exact hS.2.2 q g
      · exact hA _ (hL2 q g)⟩
  obtain ⟨tt, a1, b1⟩ := kk v' h' hq' T'.heap (locs ++ L) (by rw [e1]; exact hPw) hS' T' rfl X'
  rw [gv_maps] at a1
  exact ⟨tt, st9 tt a1, b1⟩
theorem gPre_of {p : Program} {s : State} {m : MethodId} {args : Array Value} {meth : Method} {c : Code} {D : va_G} {aC : Nat → ClassId} {ad : Nat → Nat} {H : Heap} {locs : List Loc} (C0 : gCx own cc nL rt p s m args meth c D aC ad) (hP : va_P D vwCl (gw aC ad h) H) (hS : va_S (gA ad s.heap.size) s.heap H locs) (U : State) (hU : U.heap = H) (hW : s.WarmedH U.vm) : gPre D aC ad H.size h U := by
  obtain ⟨hx, hb, hml, hr, hown, hts, hlocks, hK, hinj, hX⟩ := C0
  exact ⟨by rw [hU], by rw [hU]; exact hP, va_K.moved hW.alike hK, by rw [hU]; exact hX.warm hW hS.2.1 (gA_mono hS.1)⟩
def gOkM (y : MethodName) (n : Nat) : Prop := y.cls ≠ "java/lang/invoke/MethodHandle" ∧ y.cls ≠ "java/lang/invoke/VarHandle" ∧ (parseMethodDescriptor y.desc).map (fun d => d.parameters.length) = some n
theorem gOkM_len {y : MethodName} {n : Nat} (h : gOkM y n) : ∀ sig, parseMethodDescriptor y.desc = some sig → n = sig.parameters.length := by
  intro sig hs
  have h2 := h.2.2
  rw [hs] at h2
  exact (Option.some.inj h2).symm
theorem gj_callV {C : String} {index maxL d' ci o : Nat} {y : MethodName} {bytes : ByteArray} {ret : Option FieldType} {As rest : List Value} {ks : List (Nat × Nat)} {Q' : Option Value → gH → Prop} (hS : gSp d' y bytes maxL ret (.ref o :: As) h Q') (hok : gOkM y As.length) (hw1 : Cond.methodLink own index y ∈ gtb) (hw2 : Cond.instanceMethod y ∈ gtb) (hw3 : Cond.selects C y y ∈ gtb) (hw4 : Cond.initialized y.cls ∈ gtb) (hw5 : Cond.code y bytes maxL ret ∈ gtb) (hmx : maxL ≤ 40) (hc : (vwCl[ci]?).map (fun q => q.1) = some C) (hs : shp o = .inl (ci, ks)) (hdl : d' < d) (hst : st = As.reverse ++ .ref o :: rest) (hcat : (rest.map fun v => v.category).sum ≤ 8) (hd : decode cc pc = .ok (.invokevirtual index, 3)) (hp : pc + 3 = pc')
    (kk : ∀ (v : Option Value) (h' : gH), Q' v h' → gJ own cc nL rt d pc' ls (v.toList ++ rest) h' Q) : gJ own cc nL rt d pc ls st h Q := by
  subst hp; subst hst
  intro p l e s m args below meth c D aC ad C0 H locs lsA hP hS2 hL
  obtain ⟨hx, hb, hml, hr, hown, hts, hlocks, hK, hinj, hX⟩ := id C0
  obtain ⟨q, hq, rfl⟩ := Option.map_eq_some_iff.mp hc
  have he : (gw aC ad h)[o]? = some (ad o, .inr (ci, (gfs (h.1 o) (h.2.1 o) h.2.2 0 ks).map (gv ad))) := by rw [gw_at (shp_ltL hs), gcell_L hs]
  have run := va_runV (p := p) (l := l) (e := e) (R := rmD d) (below := below) (meth := meth) (C := q.1) (As := As.map (gv ad)) (rest := rest.map (gv ad)) (b := ad o) (H := H) (locs := locs) (cells := 0) (slots := 0) (mc := 0) (ms := 0) (n := As.length) (g := F0 m pc lsA ((As.reverse ++ .ref o :: rest).map (gv ad))) ⟨hx, hb, hml, hown, hts⟩ (hS l D aC ad H.size hinj)
    ⟨⟨rfl, rfl, hdl, by show 8 + (maxL + 11) + 64 * d' ≤ 64 * d; omega, fun w hw a' U hW => gtb_warm hts hW w (gtb_ws hw5 w hw) a', List.mem_cons_self, hts _ hw5, hts _ hw4, ⟨hok.1, hok.2.1⟩, gOkM_len hok, hts _ hw1⟩, hts _ hw2, hts _ hw3⟩
    ⟨gPre_blind, va_recv hK hP hq he, fun U hU hW => ⟨rfl, gPre_of C0 hP hS2 U hU hW⟩⟩ rfl (by simp) hL.size (by simp [gv]) (lv_room (by rw [List.map_map]; simpa [Function.comp_def, gv_cat] using hcat)) hd ⟨Nat.le_refl 0, Nat.le_refl 0⟩
  exact gj_cont C0 run hS2 (fun v h' hq' H1 locs1 hP1 hS1 => kk v h' hq' p l e s m args below meth c D aC ad C0 H1 locs1 lsA hP1 hS1 hL)
theorem gj_callT {index maxL d' i : Nat} {y : MethodName} {bytes : ByteArray} {ret : Option FieldType} {As rest : List Value} {Q' : Option Value → gH → Prop} (hS : gSp d' y bytes maxL ret (.ref (1000 + i) :: As) h Q') (hok : gOkM y As.length) (hw1 : Cond.methodLink own index y ∈ gtb) (hw2 : Cond.instanceMethod y ∈ gtb) (hw3 : Cond.selects "java/lang/String" y y ∈ gtb) (hw4 : Cond.initialized y.cls ∈ gtb) (hw5 : Cond.code y bytes maxL ret ∈ gtb) (hmx : maxL ≤ 40) (hi : i < 20) (hdl : d' < d) (hst : st = As.reverse ++ .ref (1000 + i) :: rest) (hcat : (rest.map fun v => v.category).sum ≤ 8) (hd : decode cc pc = .ok (.invokevirtual index, 3)) (hp : pc + 3 = pc')
    (kk : ∀ (v : Option Value) (h' : gH), Q' v h' → gJ own cc nL rt d pc' ls (v.toList ++ rest) h' Q) : gJ own cc nL rt d pc ls st h Q := by
  subst hp; subst hst
  intro p l e s m args below meth c D aC ad C0 H locs lsA hP hS2 hL
  obtain ⟨hx, hb, hml, hr, hown, hts, hlocks, hK, hinj, hX⟩ := id C0
  obtain ⟨adV, hV⟩ := hX.1
  have run := va_runV (p := p) (l := l) (e := e) (R := rmD d) (below := below) (meth := meth) (C := "java/lang/String") (As := As.map (gv ad)) (rest := rest.map (gv ad)) (b := ad (1000 + i)) (H := H) (locs := locs) (cells := 0) (slots := 0) (mc := 0) (ms := 0) (n := As.length) (g := F0 m pc lsA ((As.reverse ++ .ref (1000 + i) :: rest).map (gv ad))) ⟨hx, hb, hml, hown, hts⟩ (hS l D aC ad H.size hinj)
    ⟨⟨rfl, rfl, hdl, by show 8 + (maxL + 11) + 64 * d' ≤ 64 * d; omega, fun w hw a' U hW => gtb_warm hts hW w (gtb_ws hw5 w hw) a', List.mem_cons_self, hts _ hw5, hts _ hw4, ⟨hok.1, hok.2.1⟩, gOkM_len hok, hts _ hw1⟩, hts _ hw2, hts _ hw3⟩
    ⟨gPre_blind, vk_recv (adK := fun k => ad (1000 + k)) (i := i) hV hi hS2, fun U hU hW => ⟨rfl, gPre_of C0 hP hS2 U hU hW⟩⟩ rfl (by simp) hL.size (by simp [gv]) (lv_room (by rw [List.map_map]; simpa [Function.comp_def, gv_cat] using hcat)) hd ⟨Nat.le_refl 0, Nat.le_refl 0⟩
  exact gj_cont C0 run hS2 (fun v h' hq' H1 locs1 hP1 hS1 => kk v h' hq' p l e s m args below meth c D aC ad C0 H1 locs1 lsA hP1 hS1 hL)
theorem gj_callS {index maxL d' : Nat} {y : MethodName} {bytes : ByteArray} {ret : Option FieldType} {As rest : List Value} {Q' : Option Value → gH → Prop} (hS : gSp d' y bytes maxL ret As h Q') (hok : gOkM y As.length) (hw1 : Cond.methodLink own index y ∈ gtb) (hw2 : Cond.static y ∈ gtb) (hw4 : Cond.initialized y.cls ∈ gtb) (hw5 : Cond.code y bytes maxL ret ∈ gtb) (hmx : maxL ≤ 40) (hdl : d' < d) (hst : st = As.reverse ++ rest) (hcat : (rest.map fun v => v.category).sum ≤ 8) (hd : decode cc pc = .ok (.invokestatic index, 3)) (hp : pc + 3 = pc')
    (kk : ∀ (v : Option Value) (h' : gH), Q' v h' → gJ own cc nL rt d pc' ls (v.toList ++ rest) h' Q) : gJ own cc nL rt d pc ls st h Q := by
  subst hp; subst hst
  intro p l e s m args below meth c D aC ad C0 H locs lsA hP hS2 hL
  obtain ⟨hx, hb, hml, hr, hown, hts, hlocks, hK, hinj, hX⟩ := id C0
  have run := va_runS (p := p) (l := l) (e := e) (R := rmD d) (below := below) (meth := meth) (As := As.map (gv ad)) (rest := rest.map (gv ad)) (H := H) (locs := locs) (cells := 0) (slots := 0) (mc := 0) (ms := 0) (n := As.length) (g := F0 m pc lsA ((As.reverse ++ rest).map (gv ad))) ⟨hx, hb, hml, hown, hts⟩ (hS l D aC ad H.size hinj)
    ⟨⟨rfl, rfl, hdl, by show 8 + (maxL + 11) + 64 * d' ≤ 64 * d; omega, fun w hw a' U hW => gtb_warm hts hW w (gtb_ws hw5 w hw) a', List.mem_cons_self, hts _ hw5, hts _ hw4, ⟨hok.1, hok.2.1⟩, gOkM_len hok, hts _ hw1⟩, hts _ hw2⟩
    ⟨gPre_blind, fun U hU hW => ⟨rfl, gPre_of C0 hP hS2 U hU hW⟩⟩ rfl (by simp) hL.size (by simp) (lv_room (by rw [List.map_map]; simpa [Function.comp_def, gv_cat] using hcat)) hd ⟨Nat.le_refl 0, Nat.le_refl 0⟩
  exact gj_cont C0 run hS2 (fun v h' hq' H1 locs1 hP1 hS1 => kk v h' hq' p l e s m args below meth c D aC ad C0 H1 locs1 lsA hP1 hS1 hL)
theorem gj_callN {host : String} {index maxL d' : Nat} {y : MethodName} {bytes : ByteArray} {ret : Option FieldType} {As rest : List Value} {Q' : Option Value → gH → Prop} (hS : gSp d' y bytes maxL ret As h Q') (hok : gOkM y As.length) (hw1 : Cond.methodLinkNest own index y host ∈ gtb) (hw2 : Cond.static y ∈ gtb) (hw4 : Cond.initialized y.cls ∈ gtb) (hw5 : Cond.code y bytes maxL ret ∈ gtb) (hmx : maxL ≤ 40) (hdl : d' < d) (hst : st = As.reverse ++ rest) (hcat : (rest.map fun v => v.category).sum ≤ 8) (hd : decode cc pc = .ok (.invokestatic index, 3)) (hp : pc + 3 = pc')
    (kk : ∀ (v : Option Value) (h' : gH), Q' v h' → gJ own cc nL rt d pc' ls (v.toList ++ rest) h' Q) : gJ own cc nL rt d pc ls st h Q := by
  subst hp; subst hst
  intro p l e s m args below meth c D aC ad C0 H locs lsA hP hS2 hL
  obtain ⟨hx, hb, hml, hr, hown, hts, hlocks, hK, hinj, hX⟩ := id C0
  have run := va_runSN (p := p) (l := l) (e := e) (R := rmD d) (below := below) (meth := meth) (host := host) (As := As.map (gv ad)) (rest := rest.map (gv ad)) (H := H) (locs := locs) (cells := 0) (slots := 0) (mc := 0) (ms := 0) (n := As.length) (g := F0 m pc lsA ((As.reverse ++ rest).map (gv ad))) ⟨hx, hb, hml, hown, hts⟩ (hS l D aC ad H.size hinj)
    ⟨⟨⟨rfl, rfl, hdl, by show 8 + (maxL + 11) + 64 * d' ≤ 64 * d; omega, fun w hw a' U hW => gtb_warm hts hW w (gtb_ws hw5 w hw) a', List.mem_cons_self⟩, hts _ hw5, hts _ hw4, ⟨hok.1, hok.2.1⟩, gOkM_len hok, hts _ hw1⟩, hts _ hw2, trivial⟩
    ⟨gPre_blind, fun U hU hW => ⟨rfl, gPre_of C0 hP hS2 U hU hW⟩⟩ rfl (by simp) hL.size (by simp) (lv_room (by rw [List.map_map]; simpa [Function.comp_def, gv_cat] using hcat)) hd ⟨Nat.le_refl 0, Nat.le_refl 0⟩
  exact gj_cont C0 run hS2 (fun v h' hq' H1 locs1 hP1 hS1 => kk v h' hq' p l e s m args below meth c D aC ad C0 H1 locs1 lsA hP1 hS1 hL)
-- from the judgement to the contract
def gent : List Value → List (Option Value)
  | [] => []
  | v :: vs => if v.category = 2 then some v :: none :: gent vs else some v :: gent vs
theorem gent_at {ad : Nat → Nat} : ∀ (vs : List Value) (k i : Nat) (v : Value), (gent vs)[i]? = some (some v) → (k + i, gv ad v) ∈ lv_args k (vs.map (gv ad))
  | [], k, i, v, h => by simp [gent] at h
  | w :: vs, k, i, v, h => by
    unfold gent at h
    show (k + i, gv ad v) ∈ (k, gv ad w) :: lv_args (if (gv ad w).category = 2 then k + 2 else k + 1) (vs.map (gv ad))
    rw [gv_cat]
    by_cases hc : w.category = 2
    · rw [if_pos hc] at h ⊢
      match i, h with
      | 0, h => cases h; exact List.mem_cons_self
      | 1, h => cases h
      | i + 2, h => exact List.mem_cons_of_mem _ (by have := gent_at (ad := ad) vs (k + 2) i v h; rw [show k + (i + 2) = k + 2 + i by omega]; exact this)
    · rw [if_neg hc] at h ⊢
      match i, h with
      | 0, h => cases h; exact List.mem_cons_self
      | i + 1, h => exact List.mem_cons_of_mem _ (by have := gent_at (ad := ad) vs (k + 1) i v h; rw [show k + (i + 1) = k + 1 + i by omega]; exact this)
theorem gent_len {ad : Nat → Nat} : ∀ (vs : List Value), (lg_sl (vs.map (gv ad))).length = (gent vs).length
  | [] => rfl
  | w :: vs => by
    have ih := gent_len (ad := ad) vs
    unfold gent
    show (List.flatMap _ _).length = _
    rw [List.map_cons, List.flatMap_cons, List.length_append]
    have e : ((vs.map (gv ad)).flatMap fun v => if v.category = 2 then [Slot.val v, .second] else [.val v]).length = (gent vs).length := ih
    rw [e, gv_cat]
    by_cases hc : w.category = 2
    · rw [if_pos hc, if_pos hc]; simp; omega
    · rw [if_neg hc, if_neg hc]; simp; omega
theorem gSp_of {y : MethodName} {args : List Value} (hy : plainName y.cls = true) (hlen : (gent args).length ≤ nL) (k : gJ y.cls cc nL rt d 0 (gent args ++ List.replicate (nL - (gent args).length) none) [] h Q) : gSp d y cc nL rt args h Q := by
  intro l D aC ad sz hinj
  refine Met.ofW (cc := cc) (maxL := nL) (ret := rt) hy rfl ?_
  intro p e s m argsA below meth c s₁ B hml hv
  obtain ⟨rfl, hsz, hP, hK, hX⟩ := hv
  have hts : ∀ w ∈ gtb, w.before ((args.map (gv ad)).toArray) s = true := fun w hw => atoms_spec (ws := Cond.code y cc nL rt :: gtb) B.pre w (List.mem_cons_of_mem _ hw)
  have hown : s.vm.findClass y.cls = some m.cls := findClass_of_methodNamed B.named
  subst hsz
  have hl := lv_entry (args.map (gv ad)) (n := nL) (by rw [gent_len]; exact hlen)
  rw [lg_entry_eq]
  refine k p l e s m _ below meth c D aC ad ⟨B.exec, B.bytes, hml, B.returns, hown, hts, B.notSynchronized, hK, hinj, hX⟩ s.heap [] _ hP va_S.rf ⟨_, hl, fun i v hi => ?_⟩
  rcases Nat.lt_or_ge i (gent args).length with q | q
  · rw [List.getElem?_append_left q] at hi
    have := gent_at (ad := ad) args 0 i v hi
    rwa [Nat.zero_add] at this
  · rw [List.getElem?_append_right q] at hi
    have := List.eq_of_mem_replicate (List.mem_of_getElem? hi)
    cases this
theorem gSp_mono {y : MethodName} {args : List Value} {Q' : Option Value → gH → Prop} (hS : gSp d y cc nL rt args h Q') (hq : ∀ v h', Q' v h' → Q v h') : gSp d y cc nL rt args h Q := by
  intro l D aC ad sz hinj p e ha hf hcl s m a below hfr happ hP hK
  obtain ⟨n, o, h1, h2, h3, h4, h5⟩ := hS l D aC ad sz hinj p e ha hf hcl s m a below hfr happ hP hK
  obtain ⟨⟨v, h', c1, c2, c3⟩, c4⟩ := h4
  exact ⟨n, o, h1, h2, h3, ⟨⟨v, h', c1, hq v h' c2, c3⟩, c4⟩, h5⟩
end HEAP
