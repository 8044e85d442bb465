/-! Math.abs, max, min: one row a place -/
section MROWS
variable {own : String} {cc : ByteArray} {nL : Nat} {rt : Option FieldType} {d pc pc' : Nat} {ls : List (Option Value)} {st : List Value} {h : gH} {Q : Option Value → gH → Prop}
theorem gj_mabs {index : Nat} {a : Int} (hd : decode cc pc = .ok (.invokestatic index, 3)) (hp : pc + 3 = pc') (w1 : Cond.methodLink own index Lib.Math.abs.name ∈ gtb) (hd1 : 1 ≤ d) (ha : -2147483647 ≤ a ∧ a ≤ 2147483647) (hcat : (st.map fun v => v.category).sum ≤ 8) (kk : gJ own cc nL rt d pc' ls (.int (zI (a.natAbs : Nat)) :: st) h Q) : gJ own cc nL rt d pc ls (.int (zI a) :: st) h Q := by
  subst hp
  intro p l e s m args below meth c D aC ad C H locs lsA hP hS hL
  obtain ⟨hx, hb, hml, hr, hown, hts, hlocks, hK, hinj, hX⟩ := id C
  have hcat2 : ((st.map (gv ad)).map fun v => v.category).sum ≤ 8 := by rw [List.map_map]; simpa [Function.comp_def, gv_cat] using hcat
  refine va_mabs hx hb (hml.trans hL.size.symm) hown (hts _ w1) (hts _ (gtb_at 597 (by decide +kernel) rfl)) (hts _ (gtb_at 12 (by decide +kernel) rfl)) (hts _ (gtb_at 598 (by decide +kernel) rfl)) hd1 (by show _ + 13 ≤ 64 * d; omega) (Nat.le_refl 0) (Nat.le_refl 0) hd ?_
  have e9 : (if 0 ≤ zI a then zI a else 0 - zI a) = zI (a.natAbs : Nat) := by
    have z : (0 : Int32) = zI 0 := rfl
    rw [z]
    have e1 := zI_le (a := 0) (b := a) (by omega) (by omega)
    by_cases q : (0 : Int) ≤ a
    · rw [if_pos (e1.mpr q)]; congr 1; omega
    · rw [if_neg (fun z => q (e1.mp z)), zI_sub]; congr 1; omega
  rw [e9]
  exact kk p l e s m args below meth c D aC ad C H locs lsA hP hS hL
theorem gj_mmax {index : Nat} {a b : Int} (hd : decode cc pc = .ok (.invokestatic index, 3)) (hp : pc + 3 = pc') (w1 : Cond.methodLink own index Lib.Math.max.name ∈ gtb) (hd1 : 1 ≤ d) (ha : -2147483648 ≤ a ∧ a ≤ 2147483647) (hb2 : -2147483648 ≤ b ∧ b ≤ 2147483647) (hcat : (st.map fun v => v.category).sum ≤ 8) (kk : gJ own cc nL rt d pc' ls (.int (zI (max a b)) :: st) h Q) : gJ own cc nL rt d pc ls (.int (zI b) :: .int (zI a) :: st) h Q := by
  subst hp
  intro p l e s m args below meth c D aC ad C H locs lsA hP hS hL
  obtain ⟨hx, hb, hml, hr, hown, hts, hlocks, hK, hinj, hX⟩ := id C
  have hcat2 : ((st.map (gv ad)).map fun v => v.category).sum ≤ 8 := by rw [List.map_map]; simpa [Function.comp_def, gv_cat] using hcat
  refine va_mmax hx hb (hml.trans hL.size.symm) hown (hts _ w1) (hts _ (gtb_at 759 (by decide +kernel) rfl)) (hts _ (gtb_at 12 (by decide +kernel) rfl)) (hts _ (gtb_at 760 (by decide +kernel) rfl)) hd1 (by show _ + 13 ≤ 64 * d; omega) (Nat.le_refl 0) (Nat.le_refl 0) hd ?_
  have e9 : (if zI a < zI b then zI b else zI a) = zI (max a b) := by
    have e1 := zI_lt ha hb2
    by_cases q : a < b
    · rw [if_pos (e1.mpr q)]; congr 1; omega
    · rw [if_neg (fun z => q (e1.mp z))]; congr 1; omega
  rw [e9]
  exact kk p l e s m args below meth c D aC ad C H locs lsA hP hS hL
theorem gj_mmin {index : Nat} {a b : Int} (hd : decode cc pc = .ok (.invokestatic index, 3)) (hp : pc + 3 = pc') (w1 : Cond.methodLink own index Lib.Math.min.name ∈ gtb) (hd1 : 1 ≤ d) (ha : -2147483648 ≤ a ∧ a ≤ 2147483647) (hb2 : -2147483648 ≤ b ∧ b ≤ 2147483647) (hcat : (st.map fun v => v.category).sum ≤ 8) (kk : gJ own cc nL rt d pc' ls (.int (zI (min a b)) :: st) h Q) : gJ own cc nL rt d pc ls (.int (zI b) :: .int (zI a) :: st) h Q := by
  subst hp
  intro p l e s m args below meth c D aC ad C H locs lsA hP hS hL
  obtain ⟨hx, hb, hml, hr, hown, hts, hlocks, hK, hinj, hX⟩ := id C
  have hcat2 : ((st.map (gv ad)).map fun v => v.category).sum ≤ 8 := by rw [List.map_map]; simpa [Function.comp_def, gv_cat] using hcat
  refine va_mmin hx hb (hml.trans hL.size.symm) hown (hts _ w1) (hts _ (gtb_at 419 (by decide +kernel) rfl)) (hts _ (gtb_at 12 (by decide +kernel) rfl)) (hts _ (gtb_at 420 (by decide +kernel) rfl)) hd1 (by show _ + 13 ≤ 64 * d; omega) (Nat.le_refl 0) (Nat.le_refl 0) hd ?_
  have e9 : (if zI b < zI a then zI b else zI a) = zI (min a b) := by
    have e1 := zI_lt hb2 ha
    by_cases q : b < a
    · rw [if_pos (e1.mpr q)]; congr 1; omega
    · rw [if_neg (fun z => q (e1.mp z))]; congr 1; omega
  rw [e9]
  exact kk p l e s m args below meth c D aC ad C H locs lsA hP hS hL
end MROWS
theorem wm_X0_71 : Cond.methodLink RX0 71 Lib.Math.min.name ∈ gtb := (gtb_at 902 (by decide +kernel) rfl)
theorem wm_X2_35 : Cond.methodLink RX2 35 Lib.Math.min.name ∈ gtb := (gtb_at 1136 (by decide +kernel) rfl)
theorem wm_X3_86 : Cond.methodLink RX3 86 Lib.Math.min.name ∈ gtb := (gtb_at 757 (by decide +kernel) rfl)
theorem wm_X3_92 : Cond.methodLink RX3 92 Lib.Math.max.name ∈ gtb := (gtb_at 758 (by decide +kernel) rfl)
theorem wm_X3_110 : Cond.methodLink RX3 110 Lib.Math.abs.name ∈ gtb := (gtb_at 821 (by decide +kernel) rfl)
theorem wm_X5_32 : Cond.methodLink RX5 32 Lib.Math.min.name ∈ gtb := (gtb_at 924 (by decide +kernel) rfl)
theorem wm_X7_97 : Cond.methodLink RX7 97 Lib.Math.max.name ∈ gtb := (gtb_at 1013 (by decide +kernel) rfl)
theorem wm_X8_17 : Cond.methodLink RX8 17 Lib.Math.min.name ∈ gtb := (gtb_at 418 (by decide +kernel) rfl)
theorem wm_X9_75 : Cond.methodLink RX9 75 Lib.Math.abs.name ∈ gtb := (gtb_at 596 (by decide +kernel) rfl)
/-- a loop with a counter, from any place on -/
theorem gJ_for {own : String} {cc : ByteArray} {nL : Nat} {rt : Option FieldType} {d pc : Nat} {st : List Value} {h : gH} {Q : Option Value → gH → Prop} {L : Nat → List (Option Value)} (N : Nat) (step : ∀ b, b ≤ N → (b < N → gJ own cc nL rt d pc (L (b + 1)) st h Q) → gJ own cc nL rt d pc (L b) st h Q) (b0 : Nat) (h0 : b0 ≤ N) : gJ own cc nL rt d pc (L b0) st h Q := by
  have key : ∀ k b, N - b = k → b ≤ N → gJ own cc nL rt d pc (L b) st h Q := by
    intro k
    induction k with
    | zero => intro b e hb; exact step b hb (fun q => by omega)
    | succ k ih => intro b e hb; exact step b hb (fun q => ih (b + 1) (by omega) (by omega))
  exact key _ b0 rfl h0
theorem gJ_fI1 {own : String} {cc : ByteArray} {nL : Nat} {rt : Option FieldType} {d pc : Nat} {st : List Value} {h : gH} {Q : Option Value → gH → Prop} {L : Nat → Int → List (Option Value)} {I : Nat → Int → Prop} (N : Nat) (step : ∀ (b : Nat) (x : Int), b ≤ N → I b x → (∀ (x' : Int), b < N → I (b + 1) x' → gJ own cc nL rt d pc (L (b + 1) x') st h Q) → gJ own cc nL rt d pc (L b x) st h Q) (b0 : Nat) (h0 : b0 ≤ N) (x : Int) (hi : I b0 x) : gJ own cc nL rt d pc (L b0 x) st h Q := by
  have key : ∀ (k b : Nat) (x : Int), N - b = k → b ≤ N → I b x → gJ own cc nL rt d pc (L b x) st h Q := by
    intro k
    induction k with
    | zero => intro b x e hb hi; exact step b x hb hi (fun x' q _ => by omega)
    | succ k ih => intro b x e hb hi; exact step b x hb hi (fun x' q hi2 => ih (b + 1) x' (by omega) (by omega) hi2)
  exact key _ b0 x rfl h0 hi
theorem gJ_fI2 {own : String} {cc : ByteArray} {nL : Nat} {rt : Option FieldType} {d pc : Nat} {st : List Value} {h : gH} {Q : Option Value → gH → Prop} {L : Nat → Int → Int → List (Option Value)} {I : Nat → Int → Int → Prop} (N : Nat) (step : ∀ (b : Nat) (x y : Int), b ≤ N → I b x y → (∀ (x' y' : Int), b < N → I (b + 1) x' y' → gJ own cc nL rt d pc (L (b + 1) x' y') st h Q) → gJ own cc nL rt d pc (L b x y) st h Q) (b0 : Nat) (h0 : b0 ≤ N) (x y : Int) (hi : I b0 x y) : gJ own cc nL rt d pc (L b0 x y) st h Q := by
  have key : ∀ (k b : Nat) (x y : Int), N - b = k → b ≤ N → I b x y → gJ own cc nL rt d pc (L b x y) st h Q := by
    intro k
    induction k with
    | zero => intro b x y e hb hi; exact step b x y hb hi (fun x' y' q _ => by omega)
    | succ k ih => intro b x y e hb hi; exact step b x y hb hi (fun x' y' q hi2 => ih (b + 1) x' y' (by omega) (by omega) hi2)
  exact key _ b0 x y rfl h0 hi
theorem gJ_fI3 {own : String} {cc : ByteArray} {nL : Nat} {rt : Option FieldType} {d pc : Nat} {st : List Value} {h : gH} {Q : Option Value → gH → Prop} {L : Nat → Int → Int → Int → List (Option Value)} {I : Nat → Int → Int → Int → Prop} (N : Nat) (step : ∀ (b : Nat) (x y z : Int), b ≤ N → I b x y z → (∀ (x' y' z' : Int), b < N → I (b + 1) x' y' z' → gJ own cc nL rt d pc (L (b + 1) x' y' z') st h Q) → gJ own cc nL rt d pc (L b x y z) st h Q) (b0 : Nat) (h0 : b0 ≤ N) (x y z : Int) (hi : I b0 x y z) : gJ own cc nL rt d pc (L b0 x y z) st h Q := by
  have key : ∀ (k b : Nat) (x y z : Int), N - b = k → b ≤ N → I b x y z → gJ own cc nL rt d pc (L b x y z) st h Q := by
    intro k
    induction k with
    | zero => intro b x y z e hb hi; exact step b x y z hb hi (fun x' y' z' q _ => by omega)
    | succ k ih => intro b x y z e hb hi; exact step b x y z hb hi (fun x' y' z' q hi2 => ih (b + 1) x' y' z' (by omega) (by omega) hi2)
  exact key _ b0 x y z rfl h0 hi
theorem bt_shl1 {b : Nat} (hb : b < 30) : (zI 1 <<< (zI (b : Int) &&& 31)).toInt = ((2 ^ b : Nat) : Int) := by
  have h : 1 * 2 ^ b < 2 ^ 31 := by rw [Nat.one_mul]; exact Nat.pow_lt_pow_right (by omega) (by omega)
  have e := bt_shl (m := 1) (by omega) h
  rw [Nat.one_mul] at e
  exact e
theorem bt_and1 {m : Nat} (hm : m < 2 ^ 31) : (zI (m : Int) &&& zI 1).toInt = ((m &&& 1 : Nat) : Int) := bt_and (n := 1) hm (by omega)
theorem bt_bit {m b : Nat} (hm : m < 2 ^ 31) (hb : b < 32) : (zI ((zI (m : Int) >>> (zI (b : Int) &&& 31)).toInt) &&& zI 1).toInt = bI (m.testBit b) := by
  rw [bt_shr hm hb, bt_and1 (by have := Nat.div_le_self m (2 ^ b); omega), bt_one, bI_nat]
theorem bN_orI {p : Nat → Bool} {n : Nat} (hn : n < 30) : (zI ((bN p n : Nat) : Int) ||| zI ((2 ^ n : Nat) : Int)).toInt = ((bN p n + 2 ^ n : Nat) : Int) := by
  have h1 := bN_lt p n
  have h2 : 2 ^ n < 2 ^ 31 := Nat.pow_lt_pow_right (by omega) (by omega)
  rw [bt_or (by omega) h2, ← bN_or, Nat.one_mul]

