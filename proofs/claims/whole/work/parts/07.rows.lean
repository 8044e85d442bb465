/-! the rows of gJ: one an instruction -/
theorem zL_cmp {a b : Int} (ha : -9223372036854775808 ≤ a ∧ a ≤ 9223372036854775807) (hb : -9223372036854775808 ≤ b ∧ b ≤ 9223372036854775807) : lg_cmp (zL a) (zL b) = zI (if b < a then 1 else if a = b then 0 else -1) := by
  unfold lg_cmp
  have e1 : zL a < zL b ↔ a < b := by rw [Int64.lt_iff_toInt_lt, zL_toInt ha, zL_toInt hb]
  have e2 : zL b < zL a ↔ b < a := by rw [Int64.lt_iff_toInt_lt, zL_toInt ha, zL_toInt hb]
  have e3 : zL a = zL b ↔ a = b := by rw [← Int64.toInt_inj, zL_toInt ha, zL_toInt hb]
  by_cases c1 : b < a
  · rw [if_pos (show zL a > zL b from e2.mpr c1), if_pos c1]; rfl
  · rw [if_neg (fun q => c1 (e2.mp q)), if_neg c1]
    by_cases c2 : a = b
    · rw [if_pos (e3.mpr c2), if_pos c2]; rfl
    · rw [if_neg (fun q => c2 (e3.mp q)), if_neg c2]; rfl
section ROWS
variable {own : String} {cc : ByteArray} {nL : Nat} {rt : Option FieldType} {d pc pc' : Nat} {ls : List (Option Value)} {st : List Value} {h : gH} {Q : Option Value → gH → Prop}
theorem gj_iconst {n : Int} (hd : decode cc pc = .ok (.iconst n, 1)) (hp : pc + 1 = pc')  (k : gJ own cc nL rt d pc' ls (.int (zI n) :: st) h Q) : gJ own cc nL rt d pc ls (st) h Q := by
  subst hp
  intro p l e s m args below meth c D aC ad C H locs lsA hP hS hL
  obtain ⟨hx, hb, hml, hr, hown, hts, hlocks, hK, hinj, hX⟩ := id C
  refine lv_iconst (v := zI n) hx hb hd rfl ?_
  exact k p l e s m args below meth c D aC ad C H locs lsA hP hS hL

theorem gj_bipush {n : Int}  (hd : decode cc pc = .ok (.bipush n, 2)) (hp : pc + 2 = pc') (hn : -128 ≤ n ∧ n ≤ 127) (k : gJ own cc nL rt d pc' ls (.int (zI n) :: st) h Q) : gJ own cc nL rt d pc ls (st) h Q := by
  subst hp
  intro p l e s m args below meth c D aC ad C H locs lsA hP hS hL
  obtain ⟨hx, hb, hml, hr, hown, hts, hlocks, hK, hinj, hX⟩ := id C
  refine lv_bipush (v := zI n) hx hb hd (by rw [← Int32.toInt_inj, Int8.toInt_toInt32, Int8.toInt_ofInt_of_le (by omega) (by omega), zI_toInt (by omega)]) ?_
  exact k p l e s m args below meth c D aC ad C H locs lsA hP hS hL

theorem gj_sipush {n : Int}  (hd : decode cc pc = .ok (.sipush n, 3)) (hp : pc + 3 = pc') (hn : -32768 ≤ n ∧ n ≤ 32767) (k : gJ own cc nL rt d pc' ls (.int (zI n) :: st) h Q) : gJ own cc nL rt d pc ls (st) h Q := by
  subst hp
  intro p l e s m args below meth c D aC ad C H locs lsA hP hS hL
  obtain ⟨hx, hb, hml, hr, hown, hts, hlocks, hK, hinj, hX⟩ := id C
  refine lv_sipush (v := zI n) hx hb hd (by rw [← Int32.toInt_inj, Int16.toInt_toInt32, Int16.toInt_ofInt_of_le (by omega) (by omega), zI_toInt (by omega)]) ?_
  exact k p l e s m args below meth c D aC ad C H locs lsA hP hS hL

theorem gj_lconst {n : Fin 2} (hd : decode cc pc = .ok (.lconst n, 1)) (hp : pc + 1 = pc')  (k : gJ own cc nL rt d pc' ls (.long (zL ((n : Nat) : Int)) :: st) h Q) : gJ own cc nL rt d pc ls (st) h Q := by
  subst hp
  intro p l e s m args below meth c D aC ad C H locs lsA hP hS hL
  obtain ⟨hx, hb, hml, hr, hown, hts, hlocks, hK, hinj, hX⟩ := id C
  refine lv_lconst (v := zL ((n : Nat) : Int)) hx hb hd rfl ?_
  exact k p l e s m args below meth c D aC ad C H locs lsA hP hS hL

theorem gj_ldc {i : Nat} {z : Int}  (hd : decode cc pc = .ok (.ldc i, 2)) (hp : pc + 2 = pc') (hw : Cond.constant own i (zI z) ∈ gtb) (k : gJ own cc nL rt d pc' ls (.int (zI z) :: st) h Q) : gJ own cc nL rt d pc ls (st) h Q := by
  subst hp
  intro p l e s m args below meth c D aC ad C H locs lsA hP hS hL
  obtain ⟨hx, hb, hml, hr, hown, hts, hlocks, hK, hinj, hX⟩ := id C
  refine lv_ldc hx hb hown (hts _ hw) hd ?_
  exact k p l e s m args below meth c D aC ad C H locs lsA hP hS hL

theorem gj_ldcw {i : Nat} {z : Int}  (hd : decode cc pc = .ok (.ldc_w i, 3)) (hp : pc + 3 = pc') (hw : Cond.constant own i (zI z) ∈ gtb) (k : gJ own cc nL rt d pc' ls (.int (zI z) :: st) h Q) : gJ own cc nL rt d pc ls (st) h Q := by
  subst hp
  intro p l e s m args below meth c D aC ad C H locs lsA hP hS hL
  obtain ⟨hx, hb, hml, hr, hown, hts, hlocks, hK, hinj, hX⟩ := id C
  refine lv_ldcw hx hb hown (hts _ hw) hd ?_
  exact k p l e s m args below meth c D aC ad C H locs lsA hP hS hL

theorem gj_ldc2 {i : Nat} {z : Int}  (hd : decode cc pc = .ok (.ldc2_w i, 3)) (hp : pc + 3 = pc') (hw : Cond.constantLong own i (zL z) ∈ gtb) (k : gJ own cc nL rt d pc' ls (.long (zL z) :: st) h Q) : gJ own cc nL rt d pc ls (st) h Q := by
  subst hp
  intro p l e s m args below meth c D aC ad C H locs lsA hP hS hL
  obtain ⟨hx, hb, hml, hr, hown, hts, hlocks, hK, hinj, hX⟩ := id C
  refine lv_ldc2 hx hb hown (hts _ hw) hd ?_
  exact k p l e s m args below meth c D aC ad C H locs lsA hP hS hL

theorem gj_ldcS {i kx : Nat} {tx : String}  (hd : decode cc pc = .ok (.ldc i, 2)) (hp : pc + 2 = pc') (hw : (own, i, tx, kx) ∈ strT) (k : gJ own cc nL rt d pc' ls (.ref (1000 + kx) :: st) h Q) : gJ own cc nL rt d pc ls (st) h Q := by
  subst hp
  intro p l e s m args below meth c D aC ad C H locs lsA hP hS hL
  obtain ⟨hx, hb, hml, hr, hown, hts, hlocks, hK, hinj, hX⟩ := id C
  refine va_ldcS (tx := tx) (q := ad (1000 + kx)) hx hb hown (hX.2.1 _ hw) hd ?_
  exact k p l e s m args below meth c D aC ad C H locs lsA hP hS hL

theorem gj_iload_n {i : Fin 4} {x : Int32}  (hd : decode cc pc = .ok (.iload_n i, 1)) (hp : pc + 1 = pc') (hl : ls[(i : Nat)]? = some (some (.int x))) (k : gJ own cc nL rt d pc' ls (.int x :: st) h Q) : gJ own cc nL rt d pc ls (st) h Q := by
  subst hp
  intro p l e s m args below meth c D aC ad C H locs lsA hP hS hL
  obtain ⟨hx, hb, hml, hr, hown, hts, hlocks, hK, hinj, hX⟩ := id C
  refine lv_iload_n hx hb hd rfl (hL.at hl) ?_
  exact k p l e s m args below meth c D aC ad C H locs lsA hP hS hL

theorem gj_iload {i : Nat} {x : Int32}  (hd : decode cc pc = .ok (.iload i, 2)) (hp : pc + 2 = pc') (hl : ls[i]? = some (some (.int x))) (k : gJ own cc nL rt d pc' ls (.int x :: st) h Q) : gJ own cc nL rt d pc ls (st) h Q := by
  subst hp
  intro p l e s m args below meth c D aC ad C H locs lsA hP hS hL
  obtain ⟨hx, hb, hml, hr, hown, hts, hlocks, hK, hinj, hX⟩ := id C
  refine lv_iload hx hb hd (hL.at hl) ?_
  exact k p l e s m args below meth c D aC ad C H locs lsA hP hS hL

theorem gj_lload_n {i : Fin 4} {x : Int64}  (hd : decode cc pc = .ok (.lload_n i, 1)) (hp : pc + 1 = pc') (hl : ls[(i : Nat)]? = some (some (.long x))) (k : gJ own cc nL rt d pc' ls (.long x :: st) h Q) : gJ own cc nL rt d pc ls (st) h Q := by
  subst hp
  intro p l e s m args below meth c D aC ad C H locs lsA hP hS hL
  obtain ⟨hx, hb, hml, hr, hown, hts, hlocks, hK, hinj, hX⟩ := id C
  refine lv_lload_n hx hb hd rfl (hL.at hl) ?_
  exact k p l e s m args below meth c D aC ad C H locs lsA hP hS hL

theorem gj_lload {i : Nat} {x : Int64}  (hd : decode cc pc = .ok (.lload i, 2)) (hp : pc + 2 = pc') (hl : ls[i]? = some (some (.long x))) (k : gJ own cc nL rt d pc' ls (.long x :: st) h Q) : gJ own cc nL rt d pc ls (st) h Q := by
  subst hp
  intro p l e s m args below meth c D aC ad C H locs lsA hP hS hL
  obtain ⟨hx, hb, hml, hr, hown, hts, hlocks, hK, hinj, hX⟩ := id C
  refine lv_lload hx hb hd (hL.at hl) ?_
  exact k p l e s m args below meth c D aC ad C H locs lsA hP hS hL

theorem gj_aload_n {i : Fin 4} {x : Nat}  (hd : decode cc pc = .ok (.aload_n i, 1)) (hp : pc + 1 = pc') (hl : ls[(i : Nat)]? = some (some (.ref x))) (k : gJ own cc nL rt d pc' ls (.ref x :: st) h Q) : gJ own cc nL rt d pc ls (st) h Q := by
  subst hp
  intro p l e s m args below meth c D aC ad C H locs lsA hP hS hL
  obtain ⟨hx, hb, hml, hr, hown, hts, hlocks, hK, hinj, hX⟩ := id C
  refine lv_aload_n hx hb hd rfl (hL.at hl) ?_
  exact k p l e s m args below meth c D aC ad C H locs lsA hP hS hL

theorem gj_aload {i : Nat} {x : Nat}  (hd : decode cc pc = .ok (.aload i, 2)) (hp : pc + 2 = pc') (hl : ls[i]? = some (some (.ref x))) (k : gJ own cc nL rt d pc' ls (.ref x :: st) h Q) : gJ own cc nL rt d pc ls (st) h Q := by
  subst hp
  intro p l e s m args below meth c D aC ad C H locs lsA hP hS hL
  obtain ⟨hx, hb, hml, hr, hown, hts, hlocks, hK, hinj, hX⟩ := id C
  refine lv_aload hx hb hd (hL.at hl) ?_
  exact k p l e s m args below meth c D aC ad C H locs lsA hP hS hL

theorem gj_istore_n {i : Fin 4} {x : Int32} (hd : decode cc pc = .ok (.istore_n i, 1)) (hp : pc + 1 = pc') (hn : (i : Nat) < nL) (k : gJ own cc nL rt d pc' (lst1 i (.int x) ls) st h Q) : gJ own cc nL rt d pc ls (.int x :: st) h Q := by
  subst hp
  intro p l e s m args below meth c D aC ad C H locs lsA hP hS hL
  obtain ⟨hx, hb, hml, hr, hown, hts, hlocks, hK, hinj, hX⟩ := id C
  obtain ⟨lv, h1, h2⟩ := hL
  exact lv_istore_n hx hb hd rfl h1 hn rfl (fun lsB hB => k p l e s m args below meth c D aC ad C H locs lsB hP hS (gLs.put1 h2 hB))

theorem gj_istore {i : Nat} {x : Int32} (hd : decode cc pc = .ok (.istore i, 2)) (hp : pc + 2 = pc') (hn : i < nL) (k : gJ own cc nL rt d pc' (lst1 i (.int x) ls) st h Q) : gJ own cc nL rt d pc ls (.int x :: st) h Q := by
  subst hp
  intro p l e s m args below meth c D aC ad C H locs lsA hP hS hL
  obtain ⟨hx, hb, hml, hr, hown, hts, hlocks, hK, hinj, hX⟩ := id C
  obtain ⟨lv, h1, h2⟩ := hL
  exact lv_istore hx hb hd h1 hn rfl (fun lsB hB => k p l e s m args below meth c D aC ad C H locs lsB hP hS (gLs.put1 h2 hB))

theorem gj_astore_n {i : Fin 4} {x : Nat} (hd : decode cc pc = .ok (.astore_n i, 1)) (hp : pc + 1 = pc') (hn : (i : Nat) < nL) (k : gJ own cc nL rt d pc' (lst1 i (.ref x) ls) st h Q) : gJ own cc nL rt d pc ls (.ref x :: st) h Q := by
  subst hp
  intro p l e s m args below meth c D aC ad C H locs lsA hP hS hL
  obtain ⟨hx, hb, hml, hr, hown, hts, hlocks, hK, hinj, hX⟩ := id C
  obtain ⟨lv, h1, h2⟩ := hL
  exact lv_astore_n hx hb hd rfl h1 hn rfl (fun lsB hB => k p l e s m args below meth c D aC ad C H locs lsB hP hS (gLs.put1 h2 hB))

theorem gj_astore {i : Nat} {x : Nat} (hd : decode cc pc = .ok (.astore i, 2)) (hp : pc + 2 = pc') (hn : i < nL) (k : gJ own cc nL rt d pc' (lst1 i (.ref x) ls) st h Q) : gJ own cc nL rt d pc ls (.ref x :: st) h Q := by
  subst hp
  intro p l e s m args below meth c D aC ad C H locs lsA hP hS hL
  obtain ⟨hx, hb, hml, hr, hown, hts, hlocks, hK, hinj, hX⟩ := id C
  obtain ⟨lv, h1, h2⟩ := hL
  exact lv_astore hx hb hd h1 hn rfl (fun lsB hB => k p l e s m args below meth c D aC ad C H locs lsB hP hS (gLs.put1 h2 hB))

theorem gj_lstore_n {i : Fin 4} {x : Int64} (hd : decode cc pc = .ok (.lstore_n i, 1)) (hp : pc + 1 = pc') (hn : (i : Nat) + 1 < nL) (k : gJ own cc nL rt d pc' (lst2 i (.long x) ls) st h Q) : gJ own cc nL rt d pc ls (.long x :: st) h Q := by
  subst hp
  intro p l e s m args below meth c D aC ad C H locs lsA hP hS hL
  obtain ⟨hx, hb, hml, hr, hown, hts, hlocks, hK, hinj, hX⟩ := id C
  obtain ⟨lv, h1, h2⟩ := hL
  exact lv_lstore_n hx hb hd rfl h1 hn rfl (fun lsB hB => k p l e s m args below meth c D aC ad C H locs lsB hP hS (gLs.put2 h2 hB))

theorem gj_lstore {i : Nat} {x : Int64} (hd : decode cc pc = .ok (.lstore i, 2)) (hp : pc + 2 = pc') (hn : i + 1 < nL) (k : gJ own cc nL rt d pc' (lst2 i (.long x) ls) st h Q) : gJ own cc nL rt d pc ls (.long x :: st) h Q := by
  subst hp
  intro p l e s m args below meth c D aC ad C H locs lsA hP hS hL
  obtain ⟨hx, hb, hml, hr, hown, hts, hlocks, hK, hinj, hX⟩ := id C
  obtain ⟨lv, h1, h2⟩ := hL
  exact lv_lstore hx hb hd h1 hn rfl (fun lsB hB => k p l e s m args below meth c D aC ad C H locs lsB hP hS (gLs.put2 h2 hB))

theorem gj_iinc {i : Nat} {n a : Int} (hd : decode cc pc = .ok (.iinc i n, 3)) (hp : pc + 3 = pc') (hl : ls[i]? = some (some (.int (zI a)))) (hn : i < nL) (k : gJ own cc nL rt d pc' (lst1 i (.int (zI (a + n))) ls) st h Q) : gJ own cc nL rt d pc ls st h Q := by
  subst hp
  intro p l e s m args below meth c D aC ad C H locs lsA hP hS hL
  obtain ⟨hx, hb, hml, hr, hown, hts, hlocks, hK, hinj, hX⟩ := id C
  obtain ⟨lv, h1, h2⟩ := hL
  obtain ⟨kk, hk⟩ := List.mem_iff_getElem?.mp (h2 i _ hl)
  exact lv_iinc (v := zI (a + n)) (x := zI a) hx hb hd h1 hk (zI_add a n) hn rfl (fun lsB hB => k p l e s m args below meth c D aC ad C H locs lsB hP hS (gLs.put1 h2 hB))

theorem gj_iadd {a b : Int} (hd : decode cc pc = .ok (.iadd, 1)) (hp : pc + 1 = pc')  (k : gJ own cc nL rt d pc' ls (.int (zI (a + b)) :: st) h Q) : gJ own cc nL rt d pc ls (.int (zI b) :: .int (zI a) :: st) h Q := by
  subst hp
  intro p l e s m args below meth c D aC ad C H locs lsA hP hS hL
  obtain ⟨hx, hb, hml, hr, hown, hts, hlocks, hK, hinj, hX⟩ := id C
  refine lv_iadd (x := zI a) (y := zI b) hx hb hd ?_
  rw [zI_add]
  exact k p l e s m args below meth c D aC ad C H locs lsA hP hS hL

theorem gj_isub {a b : Int} (hd : decode cc pc = .ok (.isub, 1)) (hp : pc + 1 = pc')  (k : gJ own cc nL rt d pc' ls (.int (zI (a - b)) :: st) h Q) : gJ own cc nL rt d pc ls (.int (zI b) :: .int (zI a) :: st) h Q := by
  subst hp
  intro p l e s m args below meth c D aC ad C H locs lsA hP hS hL
  obtain ⟨hx, hb, hml, hr, hown, hts, hlocks, hK, hinj, hX⟩ := id C
  refine lv_isub (x := zI a) (y := zI b) hx hb hd ?_
  rw [zI_sub]
  exact k p l e s m args below meth c D aC ad C H locs lsA hP hS hL

theorem gj_imul {a b : Int} (hd : decode cc pc = .ok (.imul, 1)) (hp : pc + 1 = pc')  (k : gJ own cc nL rt d pc' ls (.int (zI (a * b)) :: st) h Q) : gJ own cc nL rt d pc ls (.int (zI b) :: .int (zI a) :: st) h Q := by
  subst hp
  intro p l e s m args below meth c D aC ad C H locs lsA hP hS hL
  obtain ⟨hx, hb, hml, hr, hown, hts, hlocks, hK, hinj, hX⟩ := id C
  refine lv_imul (x := zI a) (y := zI b) hx hb hd ?_
  rw [zI_mul]
  exact k p l e s m args below meth c D aC ad C H locs lsA hP hS hL

theorem gj_ineg {a : Int} (hd : decode cc pc = .ok (.ineg, 1)) (hp : pc + 1 = pc')  (k : gJ own cc nL rt d pc' ls (.int (zI (-a)) :: st) h Q) : gJ own cc nL rt d pc ls (.int (zI a) :: st) h Q := by
  subst hp
  intro p l e s m args below meth c D aC ad C H locs lsA hP hS hL
  obtain ⟨hx, hb, hml, hr, hown, hts, hlocks, hK, hinj, hX⟩ := id C
  refine lv_ineg (x := zI a) hx hb hd ?_
  rw [zI_neg]
  exact k p l e s m args below meth c D aC ad C H locs lsA hP hS hL

theorem gj_idiv {a b : Int}  (hd : decode cc pc = .ok (.idiv, 1)) (hp : pc + 1 = pc') (ha : 0 ≤ a ∧ a ≤ 2147483647) (hbb : 0 < b ∧ b ≤ 2147483647) (k : gJ own cc nL rt d pc' ls (.int (zI (a / b)) :: st) h Q) : gJ own cc nL rt d pc ls (.int (zI b) :: .int (zI a) :: st) h Q := by
  subst hp
  intro p l e s m args below meth c D aC ad C H locs lsA hP hS hL
  obtain ⟨hx, hb, hml, hr, hown, hts, hlocks, hK, hinj, hX⟩ := id C
  refine lv_idiv (x := zI a) (y := zI b) hx hb hd (fun q => by have q2 := (zI_eq (by omega) (by omega)).mp (show zI b = zI 0 from q); omega) ?_
  rw [zI_div ha hbb]
  exact k p l e s m args below meth c D aC ad C H locs lsA hP hS hL

theorem gj_irem {a b : Int}  (hd : decode cc pc = .ok (.irem, 1)) (hp : pc + 1 = pc') (ha : 0 ≤ a ∧ a ≤ 2147483647) (hbb : 0 < b ∧ b ≤ 2147483647) (k : gJ own cc nL rt d pc' ls (.int (zI (a % b)) :: st) h Q) : gJ own cc nL rt d pc ls (.int (zI b) :: .int (zI a) :: st) h Q := by
  subst hp
  intro p l e s m args below meth c D aC ad C H locs lsA hP hS hL
  obtain ⟨hx, hb, hml, hr, hown, hts, hlocks, hK, hinj, hX⟩ := id C
  refine lv_irem (x := zI a) (y := zI b) hx hb hd (fun q => by have q2 := (zI_eq (by omega) (by omega)).mp (show zI b = zI 0 from q); omega) ?_
  rw [zI_rem ha hbb]
  exact k p l e s m args below meth c D aC ad C H locs lsA hP hS hL

theorem gj_iand {a b : Int} (hd : decode cc pc = .ok (.iand, 1)) (hp : pc + 1 = pc')  (k : gJ own cc nL rt d pc' ls (.int (zI (zI a &&& zI b).toInt) :: st) h Q) : gJ own cc nL rt d pc ls (.int (zI b) :: .int (zI a) :: st) h Q := by
  subst hp
  intro p l e s m args below meth c D aC ad C H locs lsA hP hS hL
  obtain ⟨hx, hb, hml, hr, hown, hts, hlocks, hK, hinj, hX⟩ := id C
  refine lv_iand (x := zI a) (y := zI b) hx hb hd ?_
  rw [← zI_of (_ &&& _)]
  exact k p l e s m args below meth c D aC ad C H locs lsA hP hS hL

theorem gj_ior {a b : Int} (hd : decode cc pc = .ok (.ior, 1)) (hp : pc + 1 = pc')  (k : gJ own cc nL rt d pc' ls (.int (zI (zI a ||| zI b).toInt) :: st) h Q) : gJ own cc nL rt d pc ls (.int (zI b) :: .int (zI a) :: st) h Q := by
  subst hp
  intro p l e s m args below meth c D aC ad C H locs lsA hP hS hL
  obtain ⟨hx, hb, hml, hr, hown, hts, hlocks, hK, hinj, hX⟩ := id C
  refine lv_ior (x := zI a) (y := zI b) hx hb hd ?_
  rw [← zI_of (_ ||| _)]
  exact k p l e s m args below meth c D aC ad C H locs lsA hP hS hL

theorem gj_ixor {a b : Int} (hd : decode cc pc = .ok (.ixor, 1)) (hp : pc + 1 = pc')  (k : gJ own cc nL rt d pc' ls (.int (zI (zI a ^^^ zI b).toInt) :: st) h Q) : gJ own cc nL rt d pc ls (.int (zI b) :: .int (zI a) :: st) h Q := by
  subst hp
  intro p l e s m args below meth c D aC ad C H locs lsA hP hS hL
  obtain ⟨hx, hb, hml, hr, hown, hts, hlocks, hK, hinj, hX⟩ := id C
  refine lv_ixor (x := zI a) (y := zI b) hx hb hd ?_
  rw [← zI_of (_ ^^^ _)]
  exact k p l e s m args below meth c D aC ad C H locs lsA hP hS hL

theorem gj_ishl {a b : Int} (hd : decode cc pc = .ok (.ishl, 1)) (hp : pc + 1 = pc')  (k : gJ own cc nL rt d pc' ls (.int (zI (zI a <<< (zI b &&& 31)).toInt) :: st) h Q) : gJ own cc nL rt d pc ls (.int (zI b) :: .int (zI a) :: st) h Q := by
  subst hp
  intro p l e s m args below meth c D aC ad C H locs lsA hP hS hL
  obtain ⟨hx, hb, hml, hr, hown, hts, hlocks, hK, hinj, hX⟩ := id C
  refine lv_ishl (x := zI a) (y := zI b) hx hb hd ?_
  rw [← zI_of (_ <<< _)]
  exact k p l e s m args below meth c D aC ad C H locs lsA hP hS hL

theorem gj_ishr {a b : Int} (hd : decode cc pc = .ok (.ishr, 1)) (hp : pc + 1 = pc')  (k : gJ own cc nL rt d pc' ls (.int (zI (zI a >>> (zI b &&& 31)).toInt) :: st) h Q) : gJ own cc nL rt d pc ls (.int (zI b) :: .int (zI a) :: st) h Q := by
  subst hp
  intro p l e s m args below meth c D aC ad C H locs lsA hP hS hL
  obtain ⟨hx, hb, hml, hr, hown, hts, hlocks, hK, hinj, hX⟩ := id C
  refine lv_ishr (x := zI a) (y := zI b) hx hb hd ?_
  rw [← zI_of (_ >>> _)]
  exact k p l e s m args below meth c D aC ad C H locs lsA hP hS hL

theorem gj_iushr {a b : Int} (hd : decode cc pc = .ok (.iushr, 1)) (hp : pc + 1 = pc')  (k : gJ own cc nL rt d pc' ls (.int (zI ((zI a).toUInt32 >>> ((zI b).toUInt32 &&& Int32.toUInt32 31)).toInt32.toInt) :: st) h Q) : gJ own cc nL rt d pc ls (.int (zI b) :: .int (zI a) :: st) h Q := by
  subst hp
  intro p l e s m args below meth c D aC ad C H locs lsA hP hS hL
  obtain ⟨hx, hb, hml, hr, hown, hts, hlocks, hK, hinj, hX⟩ := id C
  refine lv_iushr (x := zI a) (y := zI b) hx hb hd (zI_of _).symm ?_
  exact k p l e s m args below meth c D aC ad C H locs lsA hP hS hL

theorem gj_ladd {a b : Int} (hd : decode cc pc = .ok (.ladd, 1)) (hp : pc + 1 = pc')  (k : gJ own cc nL rt d pc' ls (.long (zL (a + b)) :: st) h Q) : gJ own cc nL rt d pc ls (.long (zL b) :: .long (zL a) :: st) h Q := by
  subst hp
  intro p l e s m args below meth c D aC ad C H locs lsA hP hS hL
  obtain ⟨hx, hb, hml, hr, hown, hts, hlocks, hK, hinj, hX⟩ := id C
  refine lv_ladd (x := zL a) (y := zL b) hx hb hd ?_
  rw [zL_add]
  exact k p l e s m args below meth c D aC ad C H locs lsA hP hS hL

theorem gj_lmul {a b : Int} (hd : decode cc pc = .ok (.lmul, 1)) (hp : pc + 1 = pc')  (k : gJ own cc nL rt d pc' ls (.long (zL (a * b)) :: st) h Q) : gJ own cc nL rt d pc ls (.long (zL b) :: .long (zL a) :: st) h Q := by
  subst hp
  intro p l e s m args below meth c D aC ad C H locs lsA hP hS hL
  obtain ⟨hx, hb, hml, hr, hown, hts, hlocks, hK, hinj, hX⟩ := id C
  refine lv_lmul (x := zL a) (y := zL b) hx hb hd ?_
  rw [zL_mul]
  exact k p l e s m args below meth c D aC ad C H locs lsA hP hS hL

theorem gj_ldiv {a b : Int}  (hd : decode cc pc = .ok (.ldiv, 1)) (hp : pc + 1 = pc') (ha : 0 ≤ a ∧ a ≤ 9223372036854775807) (hbb : 0 < b ∧ b ≤ 9223372036854775807) (k : gJ own cc nL rt d pc' ls (.long (zL (a / b)) :: st) h Q) : gJ own cc nL rt d pc ls (.long (zL b) :: .long (zL a) :: st) h Q := by
  subst hp
  intro p l e s m args below meth c D aC ad C H locs lsA hP hS hL
  obtain ⟨hx, hb, hml, hr, hown, hts, hlocks, hK, hinj, hX⟩ := id C
  refine lv_ldiv (x := zL a) (y := zL b) hx hb hd (fun q => by have q2 := congrArg Int64.toInt (show zL b = zL 0 from q); rw [zL_toInt (by omega), zL_toInt (by omega)] at q2; omega) ?_
  rw [zL_div ha hbb]
  exact k p l e s m args below meth c D aC ad C H locs lsA hP hS hL

theorem gj_lrem {a b : Int}  (hd : decode cc pc = .ok (.lrem, 1)) (hp : pc + 1 = pc') (ha : 0 ≤ a ∧ a ≤ 9223372036854775807) (hbb : 0 < b ∧ b ≤ 9223372036854775807) (k : gJ own cc nL rt d pc' ls (.long (zL (a % b)) :: st) h Q) : gJ own cc nL rt d pc ls (.long (zL b) :: .long (zL a) :: st) h Q := by
  subst hp
  intro p l e s m args below meth c D aC ad C H locs lsA hP hS hL
  obtain ⟨hx, hb, hml, hr, hown, hts, hlocks, hK, hinj, hX⟩ := id C
  refine lv_lrem (x := zL a) (y := zL b) hx hb hd (fun q => by have q2 := congrArg Int64.toInt (show zL b = zL 0 from q); rw [zL_toInt (by omega), zL_toInt (by omega)] at q2; omega) ?_
  rw [zL_rem ha hbb]
  exact k p l e s m args below meth c D aC ad C H locs lsA hP hS hL

theorem gj_lor {a b : Int} (hd : decode cc pc = .ok (.lor, 1)) (hp : pc + 1 = pc')  (k : gJ own cc nL rt d pc' ls (.long (zL (zL a ||| zL b).toInt) :: st) h Q) : gJ own cc nL rt d pc ls (.long (zL b) :: .long (zL a) :: st) h Q := by
  subst hp
  intro p l e s m args below meth c D aC ad C H locs lsA hP hS hL
  obtain ⟨hx, hb, hml, hr, hown, hts, hlocks, hK, hinj, hX⟩ := id C
  refine lv_lor (x := zL a) (y := zL b) hx hb hd ?_
  rw [← zL_of (_ ||| _)]
  exact k p l e s m args below meth c D aC ad C H locs lsA hP hS hL

theorem gj_lshl {a b : Int} (hd : decode cc pc = .ok (.lshl, 1)) (hp : pc + 1 = pc')  (k : gJ own cc nL rt d pc' ls (.long (zL (zL a <<< ((zI b).toInt64 &&& 63)).toInt) :: st) h Q) : gJ own cc nL rt d pc ls (.int (zI b) :: .long (zL a) :: st) h Q := by
  subst hp
  intro p l e s m args below meth c D aC ad C H locs lsA hP hS hL
  obtain ⟨hx, hb, hml, hr, hown, hts, hlocks, hK, hinj, hX⟩ := id C
  refine lv_lshl (x := zL a) (y := zI b) hx hb hd (zL_of _).symm ?_
  exact k p l e s m args below meth c D aC ad C H locs lsA hP hS hL

theorem gj_i2l {a : Int}  (hd : decode cc pc = .ok (.i2l, 1)) (hp : pc + 1 = pc') (ha : -2147483648 ≤ a ∧ a ≤ 2147483647) (k : gJ own cc nL rt d pc' ls (.long (zL a) :: st) h Q) : gJ own cc nL rt d pc ls (.int (zI a) :: st) h Q := by
  subst hp
  intro p l e s m args below meth c D aC ad C H locs lsA hP hS hL
  obtain ⟨hx, hb, hml, hr, hown, hts, hlocks, hK, hinj, hX⟩ := id C
  refine lv_i2l (x := zI a) hx hb hd (zI_64 ha) ?_
  exact k p l e s m args below meth c D aC ad C H locs lsA hP hS hL

theorem gj_i2c {a : Int} (hd : decode cc pc = .ok (.i2c, 1)) (hp : pc + 1 = pc')  (k : gJ own cc nL rt d pc' ls (.int (zI ((zI a).toUInt32 % 65536).toInt32.toInt) :: st) h Q) : gJ own cc nL rt d pc ls (.int (zI a) :: st) h Q := by
  subst hp
  intro p l e s m args below meth c D aC ad C H locs lsA hP hS hL
  obtain ⟨hx, hb, hml, hr, hown, hts, hlocks, hK, hinj, hX⟩ := id C
  refine lv_i2c (x := zI a) hx hb hd (zI_of _).symm ?_
  exact k p l e s m args below meth c D aC ad C H locs lsA hP hS hL

theorem gj_i2b {a : Int} (hd : decode cc pc = .ok (.i2b, 1)) (hp : pc + 1 = pc')  (k : gJ own cc nL rt d pc' ls (.int (zI (zI a).toInt8.toInt32.toInt) :: st) h Q) : gJ own cc nL rt d pc ls (.int (zI a) :: st) h Q := by
  subst hp
  intro p l e s m args below meth c D aC ad C H locs lsA hP hS hL
  obtain ⟨hx, hb, hml, hr, hown, hts, hlocks, hK, hinj, hX⟩ := id C
  refine lv_i2b (x := zI a) hx hb hd (zI_of _).symm ?_
  exact k p l e s m args below meth c D aC ad C H locs lsA hP hS hL

theorem gj_lcmp {a b : Int}  (hd : decode cc pc = .ok (.lcmp, 1)) (hp : pc + 1 = pc') (ha : -9223372036854775808 ≤ a ∧ a ≤ 9223372036854775807) (hbb : -9223372036854775808 ≤ b ∧ b ≤ 9223372036854775807) (k : gJ own cc nL rt d pc' ls (.int (zI (if b < a then 1 else if a = b then 0 else -1)) :: st) h Q) : gJ own cc nL rt d pc ls (.long (zL b) :: .long (zL a) :: st) h Q := by
  subst hp
  intro p l e s m args below meth c D aC ad C H locs lsA hP hS hL
  obtain ⟨hx, hb, hml, hr, hown, hts, hlocks, hK, hinj, hX⟩ := id C
  refine W.lcmp (x := zL a) (y := zL b) hx hb hd ?_
  rw [zL_cmp ha hbb]
  exact k p l e s m args below meth c D aC ad C H locs lsA hP hS hL

theorem gj_dup {v : Value}  (hd : decode cc pc = .ok (.dup, 1)) (hp : pc + 1 = pc') (hv : v.category = 1) (k : gJ own cc nL rt d pc' ls (v :: v :: st) h Q) : gJ own cc nL rt d pc ls (v :: st) h Q := by
  subst hp
  intro p l e s m args below meth c D aC ad C H locs lsA hP hS hL
  obtain ⟨hx, hb, hml, hr, hown, hts, hlocks, hK, hinj, hX⟩ := id C
  refine lv_dup hx hb hd (by rw [gv_cat]; exact hv) ?_
  exact k p l e s m args below meth c D aC ad C H locs lsA hP hS hL

theorem gj_pop {v : Value}  (hd : decode cc pc = .ok (.pop, 1)) (hp : pc + 1 = pc') (hv : v.category = 1) (k : gJ own cc nL rt d pc' ls (st) h Q) : gJ own cc nL rt d pc ls (v :: st) h Q := by
  subst hp
  intro p l e s m args below meth c D aC ad C H locs lsA hP hS hL
  obtain ⟨hx, hb, hml, hr, hown, hts, hlocks, hK, hinj, hX⟩ := id C
  refine lv_pop hx hb hd (by rw [gv_cat]; exact hv) ?_
  exact k p l e s m args below meth c D aC ad C H locs lsA hP hS hL

theorem gj_dup2 {v w : Value}  (hd : decode cc pc = .ok (.dup2, 1)) (hp : pc + 1 = pc') (hv : v.category = 1) (hw : w.category = 1) (k : gJ own cc nL rt d pc' ls (v :: w :: v :: w :: st) h Q) : gJ own cc nL rt d pc ls (v :: w :: st) h Q := by
  subst hp
  intro p l e s m args below meth c D aC ad C H locs lsA hP hS hL
  obtain ⟨hx, hb, hml, hr, hown, hts, hlocks, hK, hinj, hX⟩ := id C
  refine lv_dup2_11 hx hb hd (by rw [gv_cat]; exact hv) (by rw [gv_cat]; exact hw) ?_
  exact k p l e s m args below meth c D aC ad C H locs lsA hP hS hL

theorem gj_goto {off : Int} (hd : decode cc pc = .ok (.goto off, 3)) (hp : (pc : Int) + off = (pc' : Int)) (k : gJ own cc nL rt d pc' ls st h Q) : gJ own cc nL rt d pc ls st h Q := by
  intro p l e s m args below meth c D aC ad C H locs lsA hP hS hL
  obtain ⟨hx, hb, hml, hr, hown, hts, hlocks, hK, hinj, hX⟩ := id C
  exact lv_goto hx hb hd hp (k p l e s m args below meth c D aC ad C H locs lsA hP hS hL)

theorem gj_icmp_eq {off : Int} {a b : Int} {tgt : Nat} (hd : decode cc pc = .ok (.if_icmp .eq off, 3)) (ht : (pc : Int) + off = (tgt : Int)) (hp : pc + 3 = pc') (hb2 : (-2147483648 ≤ a ∧ a ≤ 2147483647) ∧ (-2147483648 ≤ b ∧ b ≤ 2147483647)) (kt : a = b → gJ own cc nL rt d tgt ls st h Q) (kf : a ≠ b → gJ own cc nL rt d pc' ls st h Q) : gJ own cc nL rt d pc ls (.int (zI b) :: .int (zI a) :: st) h Q := by
  subst hp
  intro p l e s m args below meth c D aC ad C H locs lsA hP hS hL
  obtain ⟨hx, hb, hml, hr, hown, hts, hlocks, hK, hinj, hX⟩ := id C
  have z0 : zI 0 = 0 := rfl
  have hB : (-2147483648 ≤ a ∧ a ≤ 2147483647) ∧ (-2147483648 ≤ b ∧ (b : Int) ≤ 2147483647) := ⟨hb2.1, hb2.2⟩
  have e1 := zI_lt hB.1 hB.2
  have e2 := zI_lt hB.2 hB.1
  have e3 := zI_le hB.1 hB.2
  have e4 := zI_le hB.2 hB.1
  have e5 := zI_eq hB.1 hB.2
  refine lv_icmp_eq (x := zI a) (y := zI b) hx hb hd ht (fun q => kt ?_ p l e s m args below meth c D aC ad C H locs lsA hP hS hL) (fun q => kf ?_ p l e s m args below meth c D aC ad C H locs lsA hP hS hL)
  · first | exact e1.mp q | exact e2.mp q | exact e3.mp q | exact e4.mp q | exact e5.mp q | exact fun z => q (e5.mpr z)
  · first | exact e5.mp q | exact e5.mp (Decidable.not_not.mp q) | exact fun z => q (e5.mpr z) | exact Int.not_lt.mp (fun z => q (e1.mpr z)) | exact Int.not_lt.mp (fun z => q (e2.mpr z)) | exact Int.not_le.mp (fun z => q (e3.mpr z)) | exact Int.not_le.mp (fun z => q (e4.mpr z))

theorem gj_if_eq {off : Int} {a : Int} {tgt : Nat} (hd : decode cc pc = .ok (.ifCond .eq off, 3)) (ht : (pc : Int) + off = (tgt : Int)) (hp : pc + 3 = pc') (hb2 : -2147483648 ≤ a ∧ a ≤ 2147483647) (kt : a = 0 → gJ own cc nL rt d tgt ls st h Q) (kf : a ≠ 0 → gJ own cc nL rt d pc' ls st h Q) : gJ own cc nL rt d pc ls (.int (zI a) :: st) h Q := by
  subst hp
  intro p l e s m args below meth c D aC ad C H locs lsA hP hS hL
  obtain ⟨hx, hb, hml, hr, hown, hts, hlocks, hK, hinj, hX⟩ := id C
  have z0 : zI 0 = 0 := rfl
  have hB : (-2147483648 ≤ a ∧ a ≤ 2147483647) ∧ (-2147483648 ≤ 0 ∧ (0 : Int) ≤ 2147483647) := ⟨hb2, by omega⟩
  have e1 := zI_lt hB.1 hB.2
  have e2 := zI_lt hB.2 hB.1
  have e3 := zI_le hB.1 hB.2
  have e4 := zI_le hB.2 hB.1
  have e5 := zI_eq hB.1 hB.2
  refine lv_if_eq (x := zI a) hx hb hd ht (fun q => kt ?_ p l e s m args below meth c D aC ad C H locs lsA hP hS hL) (fun q => kf ?_ p l e s m args below meth c D aC ad C H locs lsA hP hS hL)
  · first | exact e1.mp q | exact e2.mp q | exact e3.mp q | exact e4.mp q | exact e5.mp q | exact fun z => q (e5.mpr z)
  · first | exact e5.mp q | exact e5.mp (Decidable.not_not.mp q) | exact fun z => q (e5.mpr z) | exact Int.not_lt.mp (fun z => q (e1.mpr z)) | exact Int.not_lt.mp (fun z => q (e2.mpr z)) | exact Int.not_le.mp (fun z => q (e3.mpr z)) | exact Int.not_le.mp (fun z => q (e4.mpr z))

theorem gj_icmp_ne {off : Int} {a b : Int} {tgt : Nat} (hd : decode cc pc = .ok (.if_icmp .ne off, 3)) (ht : (pc : Int) + off = (tgt : Int)) (hp : pc + 3 = pc') (hb2 : (-2147483648 ≤ a ∧ a ≤ 2147483647) ∧ (-2147483648 ≤ b ∧ b ≤ 2147483647)) (kt : a ≠ b → gJ own cc nL rt d tgt ls st h Q) (kf : a = b → gJ own cc nL rt d pc' ls st h Q) : gJ own cc nL rt d pc ls (.int (zI b) :: .int (zI a) :: st) h Q := by
  subst hp
  intro p l e s m args below meth c D aC ad C H locs lsA hP hS hL
  obtain ⟨hx, hb, hml, hr, hown, hts, hlocks, hK, hinj, hX⟩ := id C
  have z0 : zI 0 = 0 := rfl
  have hB : (-2147483648 ≤ a ∧ a ≤ 2147483647) ∧ (-2147483648 ≤ b ∧ (b : Int) ≤ 2147483647) := ⟨hb2.1, hb2.2⟩
  have e1 := zI_lt hB.1 hB.2
  have e2 := zI_lt hB.2 hB.1
  have e3 := zI_le hB.1 hB.2
  have e4 := zI_le hB.2 hB.1
  have e5 := zI_eq hB.1 hB.2
  refine lv_icmp_ne (x := zI a) (y := zI b) hx hb hd ht (fun q => kt ?_ p l e s m args below meth c D aC ad C H locs lsA hP hS hL) (fun q => kf ?_ p l e s m args below meth c D aC ad C H locs lsA hP hS hL)
  · first | exact e1.mp q | exact e2.mp q | exact e3.mp q | exact e4.mp q | exact e5.mp q | exact fun z => q (e5.mpr z)
  · first | exact e5.mp q | exact e5.mp (Decidable.not_not.mp q) | exact fun z => q (e5.mpr z) | exact Int.not_lt.mp (fun z => q (e1.mpr z)) | exact Int.not_lt.mp (fun z => q (e2.mpr z)) | exact Int.not_le.mp (fun z => q (e3.mpr z)) | exact Int.not_le.mp (fun z => q (e4.mpr z))

theorem gj_if_ne {off : Int} {a : Int} {tgt : Nat} (hd : decode cc pc = .ok (.ifCond .ne off, 3)) (ht : (pc : Int) + off = (tgt : Int)) (hp : pc + 3 = pc') (hb2 : -2147483648 ≤ a ∧ a ≤ 2147483647) (kt : a ≠ 0 → gJ own cc nL rt d tgt ls st h Q) (kf : a = 0 → gJ own cc nL rt d pc' ls st h Q) : gJ own cc nL rt d pc ls (.int (zI a) :: st) h Q := by
  subst hp
  intro p l e s m args below meth c D aC ad C H locs lsA hP hS hL
  obtain ⟨hx, hb, hml, hr, hown, hts, hlocks, hK, hinj, hX⟩ := id C
  have z0 : zI 0 = 0 := rfl
  have hB : (-2147483648 ≤ a ∧ a ≤ 2147483647) ∧ (-2147483648 ≤ 0 ∧ (0 : Int) ≤ 2147483647) := ⟨hb2, by omega⟩
  have e1 := zI_lt hB.1 hB.2
  have e2 := zI_lt hB.2 hB.1
  have e3 := zI_le hB.1 hB.2
  have e4 := zI_le hB.2 hB.1
  have e5 := zI_eq hB.1 hB.2
  refine lv_if_ne (x := zI a) hx hb hd ht (fun q => kt ?_ p l e s m args below meth c D aC ad C H locs lsA hP hS hL) (fun q => kf ?_ p l e s m args below meth c D aC ad C H locs lsA hP hS hL)
  · first | exact e1.mp q | exact e2.mp q | exact e3.mp q | exact e4.mp q | exact e5.mp q | exact fun z => q (e5.mpr z)
  · first | exact e5.mp q | exact e5.mp (Decidable.not_not.mp q) | exact fun z => q (e5.mpr z) | exact Int.not_lt.mp (fun z => q (e1.mpr z)) | exact Int.not_lt.mp (fun z => q (e2.mpr z)) | exact Int.not_le.mp (fun z => q (e3.mpr z)) | exact Int.not_le.mp (fun z => q (e4.mpr z))

theorem gj_icmp_lt {off : Int} {a b : Int} {tgt : Nat} (hd : decode cc pc = .ok (.if_icmp .lt off, 3)) (ht : (pc : Int) + off = (tgt : Int)) (hp : pc + 3 = pc') (hb2 : (-2147483648 ≤ a ∧ a ≤ 2147483647) ∧ (-2147483648 ≤ b ∧ b ≤ 2147483647)) (kt : a < b → gJ own cc nL rt d tgt ls st h Q) (kf : a ≥ b → gJ own cc nL rt d pc' ls st h Q) : gJ own cc nL rt d pc ls (.int (zI b) :: .int (zI a) :: st) h Q := by
  subst hp
  intro p l e s m args below meth c D aC ad C H locs lsA hP hS hL
  obtain ⟨hx, hb, hml, hr, hown, hts, hlocks, hK, hinj, hX⟩ := id C
  have z0 : zI 0 = 0 := rfl
  have hB : (-2147483648 ≤ a ∧ a ≤ 2147483647) ∧ (-2147483648 ≤ b ∧ (b : Int) ≤ 2147483647) := ⟨hb2.1, hb2.2⟩
  have e1 := zI_lt hB.1 hB.2
  have e2 := zI_lt hB.2 hB.1
  have e3 := zI_le hB.1 hB.2
  have e4 := zI_le hB.2 hB.1
  have e5 := zI_eq hB.1 hB.2
  refine lv_icmp_lt (x := zI a) (y := zI b) hx hb hd ht (fun q => kt ?_ p l e s m args below meth c D aC ad C H locs lsA hP hS hL) (fun q => kf ?_ p l e s m args below meth c D aC ad C H locs lsA hP hS hL)
  · first | exact e1.mp q | exact e2.mp q | exact e3.mp q | exact e4.mp q | exact e5.mp q | exact fun z => q (e5.mpr z)
  · first | exact e5.mp q | exact e5.mp (Decidable.not_not.mp q) | exact fun z => q (e5.mpr z) | exact Int.not_lt.mp (fun z => q (e1.mpr z)) | exact Int.not_lt.mp (fun z => q (e2.mpr z)) | exact Int.not_le.mp (fun z => q (e3.mpr z)) | exact Int.not_le.mp (fun z => q (e4.mpr z))

theorem gj_if_lt {off : Int} {a : Int} {tgt : Nat} (hd : decode cc pc = .ok (.ifCond .lt off, 3)) (ht : (pc : Int) + off = (tgt : Int)) (hp : pc + 3 = pc') (hb2 : -2147483648 ≤ a ∧ a ≤ 2147483647) (kt : a < 0 → gJ own cc nL rt d tgt ls st h Q) (kf : a ≥ 0 → gJ own cc nL rt d pc' ls st h Q) : gJ own cc nL rt d pc ls (.int (zI a) :: st) h Q := by
  subst hp
  intro p l e s m args below meth c D aC ad C H locs lsA hP hS hL
  obtain ⟨hx, hb, hml, hr, hown, hts, hlocks, hK, hinj, hX⟩ := id C
  have z0 : zI 0 = 0 := rfl
  have hB : (-2147483648 ≤ a ∧ a ≤ 2147483647) ∧ (-2147483648 ≤ 0 ∧ (0 : Int) ≤ 2147483647) := ⟨hb2, by omega⟩
  have e1 := zI_lt hB.1 hB.2
  have e2 := zI_lt hB.2 hB.1
  have e3 := zI_le hB.1 hB.2
  have e4 := zI_le hB.2 hB.1
  have e5 := zI_eq hB.1 hB.2
  refine lv_if_lt (x := zI a) hx hb hd ht (fun q => kt ?_ p l e s m args below meth c D aC ad C H locs lsA hP hS hL) (fun q => kf ?_ p l e s m args below meth c D aC ad C H locs lsA hP hS hL)
  · first | exact e1.mp q | exact e2.mp q | exact e3.mp q | exact e4.mp q | exact e5.mp q | exact fun z => q (e5.mpr z)
  · first | exact e5.mp q | exact e5.mp (Decidable.not_not.mp q) | exact fun z => q (e5.mpr z) | exact Int.not_lt.mp (fun z => q (e1.mpr z)) | exact Int.not_lt.mp (fun z => q (e2.mpr z)) | exact Int.not_le.mp (fun z => q (e3.mpr z)) | exact Int.not_le.mp (fun z => q (e4.mpr z))

theorem gj_icmp_ge {off : Int} {a b : Int} {tgt : Nat} (hd : decode cc pc = .ok (.if_icmp .ge off, 3)) (ht : (pc : Int) + off = (tgt : Int)) (hp : pc + 3 = pc') (hb2 : (-2147483648 ≤ a ∧ a ≤ 2147483647) ∧ (-2147483648 ≤ b ∧ b ≤ 2147483647)) (kt : a ≥ b → gJ own cc nL rt d tgt ls st h Q) (kf : a < b → gJ own cc nL rt d pc' ls st h Q) : gJ own cc nL rt d pc ls (.int (zI b) :: .int (zI a) :: st) h Q := by
  subst hp
  intro p l e s m args below meth c D aC ad C H locs lsA hP hS hL
  obtain ⟨hx, hb, hml, hr, hown, hts, hlocks, hK, hinj, hX⟩ := id C
  have z0 : zI 0 = 0 := rfl
  have hB : (-2147483648 ≤ a ∧ a ≤ 2147483647) ∧ (-2147483648 ≤ b ∧ (b : Int) ≤ 2147483647) := ⟨hb2.1, hb2.2⟩
  have e1 := zI_lt hB.1 hB.2
  have e2 := zI_lt hB.2 hB.1
  have e3 := zI_le hB.1 hB.2
  have e4 := zI_le hB.2 hB.1
  have e5 := zI_eq hB.1 hB.2
  refine lv_icmp_ge (x := zI a) (y := zI b) hx hb hd ht (fun q => kt ?_ p l e s m args below meth c D aC ad C H locs lsA hP hS hL) (fun q => kf ?_ p l e s m args below meth c D aC ad C H locs lsA hP hS hL)
  · first | exact e1.mp q | exact e2.mp q | exact e3.mp q | exact e4.mp q | exact e5.mp q | exact fun z => q (e5.mpr z)
  · first | exact e5.mp q | exact e5.mp (Decidable.not_not.mp q) | exact fun z => q (e5.mpr z) | exact Int.not_lt.mp (fun z => q (e1.mpr z)) | exact Int.not_lt.mp (fun z => q (e2.mpr z)) | exact Int.not_le.mp (fun z => q (e3.mpr z)) | exact Int.not_le.mp (fun z => q (e4.mpr z))

theorem gj_if_ge {off : Int} {a : Int} {tgt : Nat} (hd : decode cc pc = .ok (.ifCond .ge off, 3)) (ht : (pc : Int) + off = (tgt : Int)) (hp : pc + 3 = pc') (hb2 : -2147483648 ≤ a ∧ a ≤ 2147483647) (kt : a ≥ 0 → gJ own cc nL rt d tgt ls st h Q) (kf : a < 0 → gJ own cc nL rt d pc' ls st h Q) : gJ own cc nL rt d pc ls (.int (zI a) :: st) h Q := by
  subst hp
  intro p l e s m args below meth c D aC ad C H locs lsA hP hS hL
  obtain ⟨hx, hb, hml, hr, hown, hts, hlocks, hK, hinj, hX⟩ := id C
  have z0 : zI 0 = 0 := rfl
  have hB : (-2147483648 ≤ a ∧ a ≤ 2147483647) ∧ (-2147483648 ≤ 0 ∧ (0 : Int) ≤ 2147483647) := ⟨hb2, by omega⟩
  have e1 := zI_lt hB.1 hB.2
  have e2 := zI_lt hB.2 hB.1
  have e3 := zI_le hB.1 hB.2
  have e4 := zI_le hB.2 hB.1
  have e5 := zI_eq hB.1 hB.2
  refine lv_if_ge (x := zI a) hx hb hd ht (fun q => kt ?_ p l e s m args below meth c D aC ad C H locs lsA hP hS hL) (fun q => kf ?_ p l e s m args below meth c D aC ad C H locs lsA hP hS hL)
  · first | exact e1.mp q | exact e2.mp q | exact e3.mp q | exact e4.mp q | exact e5.mp q | exact fun z => q (e5.mpr z)
  · first | exact e5.mp q | exact e5.mp (Decidable.not_not.mp q) | exact fun z => q (e5.mpr z) | exact Int.not_lt.mp (fun z => q (e1.mpr z)) | exact Int.not_lt.mp (fun z => q (e2.mpr z)) | exact Int.not_le.mp (fun z => q (e3.mpr z)) | exact Int.not_le.mp (fun z => q (e4.mpr z))

theorem gj_icmp_gt {off : Int} {a b : Int} {tgt : Nat} (hd : decode cc pc = .ok (.if_icmp .gt off, 3)) (ht : (pc : Int) + off = (tgt : Int)) (hp : pc + 3 = pc') (hb2 : (-2147483648 ≤ a ∧ a ≤ 2147483647) ∧ (-2147483648 ≤ b ∧ b ≤ 2147483647)) (kt : a > b → gJ own cc nL rt d tgt ls st h Q) (kf : a ≤ b → gJ own cc nL rt d pc' ls st h Q) : gJ own cc nL rt d pc ls (.int (zI b) :: .int (zI a) :: st) h Q := by
  subst hp
  intro p l e s m args below meth c D aC ad C H locs lsA hP hS hL
  obtain ⟨hx, hb, hml, hr, hown, hts, hlocks, hK, hinj, hX⟩ := id C
  have z0 : zI 0 = 0 := rfl
  have hB : (-2147483648 ≤ a ∧ a ≤ 2147483647) ∧ (-2147483648 ≤ b ∧ (b : Int) ≤ 2147483647) := ⟨hb2.1, hb2.2⟩
  have e1 := zI_lt hB.1 hB.2
  have e2 := zI_lt hB.2 hB.1
  have e3 := zI_le hB.1 hB.2
  have e4 := zI_le hB.2 hB.1
  have e5 := zI_eq hB.1 hB.2
  refine lv_icmp_gt (x := zI a) (y := zI b) hx hb hd ht (fun q => kt ?_ p l e s m args below meth c D aC ad C H locs lsA hP hS hL) (fun q => kf ?_ p l e s m args below meth c D aC ad C H locs lsA hP hS hL)
  · first | exact e1.mp q | exact e2.mp q | exact e3.mp q | exact e4.mp q | exact e5.mp q | exact fun z => q (e5.mpr z)
  · first | exact e5.mp q | exact e5.mp (Decidable.not_not.mp q) | exact fun z => q (e5.mpr z) | exact Int.not_lt.mp (fun z => q (e1.mpr z)) | exact Int.not_lt.mp (fun z => q (e2.mpr z)) | exact Int.not_le.mp (fun z => q (e3.mpr z)) | exact Int.not_le.mp (fun z => q (e4.mpr z))

theorem gj_if_gt {off : Int} {a : Int} {tgt : Nat} (hd : decode cc pc = .ok (.ifCond .gt off, 3)) (ht : (pc : Int) + off = (tgt : Int)) (hp : pc + 3 = pc') (hb2 : -2147483648 ≤ a ∧ a ≤ 2147483647) (kt : a > 0 → gJ own cc nL rt d tgt ls st h Q) (kf : a ≤ 0 → gJ own cc nL rt d pc' ls st h Q) : gJ own cc nL rt d pc ls (.int (zI a) :: st) h Q := by
  subst hp
  intro p l e s m args below meth c D aC ad C H locs lsA hP hS hL
  obtain ⟨hx, hb, hml, hr, hown, hts, hlocks, hK, hinj, hX⟩ := id C
  have z0 : zI 0 = 0 := rfl
  have hB : (-2147483648 ≤ a ∧ a ≤ 2147483647) ∧ (-2147483648 ≤ 0 ∧ (0 : Int) ≤ 2147483647) := ⟨hb2, by omega⟩
  have e1 := zI_lt hB.1 hB.2
  have e2 := zI_lt hB.2 hB.1
  have e3 := zI_le hB.1 hB.2
  have e4 := zI_le hB.2 hB.1
  have e5 := zI_eq hB.1 hB.2
  refine lv_if_gt (x := zI a) hx hb hd ht (fun q => kt ?_ p l e s m args below meth c D aC ad C H locs lsA hP hS hL) (fun q => kf ?_ p l e s m args below meth c D aC ad C H locs lsA hP hS hL)
  · first | exact e1.mp q | exact e2.mp q | exact e3.mp q | exact e4.mp q | exact e5.mp q | exact fun z => q (e5.mpr z)
  · first | exact e5.mp q | exact e5.mp (Decidable.not_not.mp q) | exact fun z => q (e5.mpr z) | exact Int.not_lt.mp (fun z => q (e1.mpr z)) | exact Int.not_lt.mp (fun z => q (e2.mpr z)) | exact Int.not_le.mp (fun z => q (e3.mpr z)) | exact Int.not_le.mp (fun z => q (e4.mpr z))

theorem gj_icmp_le {off : Int} {a b : Int} {tgt : Nat} (hd : decode cc pc = .ok (.if_icmp .le off, 3)) (ht : (pc : Int) + off = (tgt : Int)) (hp : pc + 3 = pc') (hb2 : (-2147483648 ≤ a ∧ a ≤ 2147483647) ∧ (-2147483648 ≤ b ∧ b ≤ 2147483647)) (kt : a ≤ b → gJ own cc nL rt d tgt ls st h Q) (kf : a > b → gJ own cc nL rt d pc' ls st h Q) : gJ own cc nL rt d pc ls (.int (zI b) :: .int (zI a) :: st) h Q := by
  subst hp
  intro p l e s m args below meth c D aC ad C H locs lsA hP hS hL
  obtain ⟨hx, hb, hml, hr, hown, hts, hlocks, hK, hinj, hX⟩ := id C
  have z0 : zI 0 = 0 := rfl
  have hB : (-2147483648 ≤ a ∧ a ≤ 2147483647) ∧ (-2147483648 ≤ b ∧ (b : Int) ≤ 2147483647) := ⟨hb2.1, hb2.2⟩
  have e1 := zI_lt hB.1 hB.2
  have e2 := zI_lt hB.2 hB.1
  have e3 := zI_le hB.1 hB.2
  have e4 := zI_le hB.2 hB.1
  have e5 := zI_eq hB.1 hB.2
  refine lv_icmp_le (x := zI a) (y := zI b) hx hb hd ht (fun q => kt ?_ p l e s m args below meth c D aC ad C H locs lsA hP hS hL) (fun q => kf ?_ p l e s m args below meth c D aC ad C H locs lsA hP hS hL)
  · first | exact e1.mp q | exact e2.mp q | exact e3.mp q | exact e4.mp q | exact e5.mp q | exact fun z => q (e5.mpr z)
  · first | exact e5.mp q | exact e5.mp (Decidable.not_not.mp q) | exact fun z => q (e5.mpr z) | exact Int.not_lt.mp (fun z => q (e1.mpr z)) | exact Int.not_lt.mp (fun z => q (e2.mpr z)) | exact Int.not_le.mp (fun z => q (e3.mpr z)) | exact Int.not_le.mp (fun z => q (e4.mpr z))

theorem gj_if_le {off : Int} {a : Int} {tgt : Nat} (hd : decode cc pc = .ok (.ifCond .le off, 3)) (ht : (pc : Int) + off = (tgt : Int)) (hp : pc + 3 = pc') (hb2 : -2147483648 ≤ a ∧ a ≤ 2147483647) (kt : a ≤ 0 → gJ own cc nL rt d tgt ls st h Q) (kf : a > 0 → gJ own cc nL rt d pc' ls st h Q) : gJ own cc nL rt d pc ls (.int (zI a) :: st) h Q := by
  subst hp
  intro p l e s m args below meth c D aC ad C H locs lsA hP hS hL
  obtain ⟨hx, hb, hml, hr, hown, hts, hlocks, hK, hinj, hX⟩ := id C
  have z0 : zI 0 = 0 := rfl
  have hB : (-2147483648 ≤ a ∧ a ≤ 2147483647) ∧ (-2147483648 ≤ 0 ∧ (0 : Int) ≤ 2147483647) := ⟨hb2, by omega⟩
  have e1 := zI_lt hB.1 hB.2
  have e2 := zI_lt hB.2 hB.1
  have e3 := zI_le hB.1 hB.2
  have e4 := zI_le hB.2 hB.1
  have e5 := zI_eq hB.1 hB.2
  refine lv_if_le (x := zI a) hx hb hd ht (fun q => kt ?_ p l e s m args below meth c D aC ad C H locs lsA hP hS hL) (fun q => kf ?_ p l e s m args below meth c D aC ad C H locs lsA hP hS hL)
  · first | exact e1.mp q | exact e2.mp q | exact e3.mp q | exact e4.mp q | exact e5.mp q | exact fun z => q (e5.mpr z)
  · first | exact e5.mp q | exact e5.mp (Decidable.not_not.mp q) | exact fun z => q (e5.mpr z) | exact Int.not_lt.mp (fun z => q (e1.mpr z)) | exact Int.not_lt.mp (fun z => q (e2.mpr z)) | exact Int.not_le.mp (fun z => q (e3.mpr z)) | exact Int.not_le.mp (fun z => q (e4.mpr z))

theorem gj_tabIn {dflt lo hi off : Int} {offs : Array Int} {len : Nat} {a : Int} (hd : decode cc pc = .ok (.tableswitch dflt lo hi offs, len)) (ha : -2147483648 ≤ a ∧ a ≤ 2147483647) (h1 : lo ≤ a) (h2 : a ≤ hi) (ho : offs[(a - lo).toNat]? = some off) (hp : (pc : Int) + off = (pc' : Int)) (k : gJ own cc nL rt d pc' ls st h Q) : gJ own cc nL rt d pc ls (.int (zI a) :: st) h Q := by
  intro p l e s m args below meth c D aC ad C H locs lsA hP hS hL
  obtain ⟨hx, hb, hml, hr, hown, hts, hlocks, hK, hinj, hX⟩ := id C
  exact lv_tableIn (x := zI a) hx hb hd (by rw [zI_toInt ha]; omega) (by rw [zI_toInt ha]; omega) (by rw [zI_toInt ha]; exact ho) hp (k p l e s m args below meth c D aC ad C H locs lsA hP hS hL)
theorem gj_tabOut {dflt lo hi : Int} {offs : Array Int} {len : Nat} {a : Int} (hd : decode cc pc = .ok (.tableswitch dflt lo hi offs, len)) (ha : -2147483648 ≤ a ∧ a ≤ 2147483647) (h1 : a < lo ∨ hi < a) (hp : (pc : Int) + dflt = (pc' : Int)) (k : gJ own cc nL rt d pc' ls st h Q) : gJ own cc nL rt d pc ls (.int (zI a) :: st) h Q := by
  intro p l e s m args below meth c D aC ad C H locs lsA hP hS hL
  obtain ⟨hx, hb, hml, hr, hown, hts, hlocks, hK, hinj, hX⟩ := id C
  exact lv_tableOut (x := zI a) hx hb hd (by rw [zI_toInt ha]; exact h1) hp (k p l e s m args below meth c D aC ad C H locs lsA hP hS hL)

end ROWS
