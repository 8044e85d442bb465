/-! THE LAYER OVER THE KIT: a pure heap of numbers by ids, and a judgement J over it -/
def zI (z : Int) : Int32 := Int32.ofInt z
def zL (z : Int) : Int64 := Int64.ofInt z
theorem zI_add (a b : Int) : zI a + zI b = zI (a + b) := (Int32.ofInt_add a b).symm
theorem zI_sub (a b : Int) : zI a - zI b = zI (a - b) := (Int32.ofInt_sub a b).symm
theorem zI_mul (a b : Int) : zI a * zI b = zI (a * b) := (Int32.ofInt_mul a b).symm
theorem zI_neg (a : Int) : -zI a = zI (-a) := (Int32.ofInt_neg a).symm
theorem zL_add (a b : Int) : zL a + zL b = zL (a + b) := (Int64.ofInt_add a b).symm
theorem zL_sub (a b : Int) : zL a - zL b = zL (a - b) := (Int64.ofInt_sub a b).symm
theorem zL_mul (a b : Int) : zL a * zL b = zL (a * b) := (Int64.ofInt_mul a b).symm
theorem zI_of (x : Int32) : zI x.toInt = x := Int32.ofInt_toInt x
theorem zL_of (x : Int64) : zL x.toInt = x := Int64.ofInt_toInt x
theorem zI_toInt {z : Int} (h : -2147483648 ≤ z ∧ z ≤ 2147483647) : (zI z).toInt = z := Int32.toInt_ofInt_of_le (by omega) (by omega)
theorem zL_toInt {z : Int} (h : -9223372036854775808 ≤ z ∧ z ≤ 9223372036854775807) : (zL z).toInt = z := Int64.toInt_ofInt_of_le (by omega) (by omega)
theorem zI_lt {a b : Int} (ha : -2147483648 ≤ a ∧ a ≤ 2147483647) (hb : -2147483648 ≤ b ∧ b ≤ 2147483647) : zI a < zI b ↔ a < b := by
  rw [Int32.lt_iff_toInt_lt, zI_toInt ha, zI_toInt hb]
theorem zI_le {a b : Int} (ha : -2147483648 ≤ a ∧ a ≤ 2147483647) (hb : -2147483648 ≤ b ∧ b ≤ 2147483647) : zI a ≤ zI b ↔ a ≤ b := by
  rw [Int32.le_iff_toInt_le, zI_toInt ha, zI_toInt hb]
theorem zI_eq {a b : Int} (ha : -2147483648 ≤ a ∧ a ≤ 2147483647) (hb : -2147483648 ≤ b ∧ b ≤ 2147483647) : zI a = zI b ↔ a = b := by
  rw [← Int32.toInt_inj, zI_toInt ha, zI_toInt hb]
theorem zI_clamp {a : Int} (ha : -2147483648 ≤ a ∧ a ≤ 2147483647) : (zI a).toNatClampNeg = a.toNat := by
  show (zI a).toInt.toNat = a.toNat
  rw [zI_toInt ha]
theorem zI_in {a : Int} {n : Nat} (h : 0 ≤ a ∧ a < n) (hn : (n : Int) ≤ 2147483647) : vp_in (zI a) n := by
  have hb : -2147483648 ≤ a ∧ a ≤ 2147483647 := by omega
  rw [vp_in_iff, zI_toInt hb]
  exact h
theorem zI_div {a b : Int} (ha : 0 ≤ a ∧ a ≤ 2147483647) (hb : 0 < b ∧ b ≤ 2147483647) : zI a / zI b = zI (a / b) := by
  rw [show a / b = Int.tdiv a b from (Int.tdiv_eq_ediv_of_nonneg ha.1).symm]
  exact (Int32.ofInt_tdiv (by show (-2147483648 : Int) ≤ a; omega) (by show a ≤ (2147483647 : Int); omega) (by show (-2147483648 : Int) ≤ b; omega) (by show b ≤ (2147483647 : Int); omega)).symm
theorem zL_div {a b : Int} (ha : 0 ≤ a ∧ a ≤ 9223372036854775807) (hb : 0 < b ∧ b ≤ 9223372036854775807) : zL a / zL b = zL (a / b) := by
  rw [show a / b = Int.tdiv a b from (Int.tdiv_eq_ediv_of_nonneg ha.1).symm]
  exact (Int64.ofInt_tdiv (by show (-9223372036854775808 : Int) ≤ a; omega) (by show a ≤ (9223372036854775807 : Int); omega) (by show (-9223372036854775808 : Int) ≤ b; omega) (by show b ≤ (9223372036854775807 : Int); omega)).symm
theorem zI_rem {a b : Int} (ha : 0 ≤ a ∧ a ≤ 2147483647) (hb : 0 < b ∧ b ≤ 2147483647) : zI a - zI a / zI b * zI b = zI (a % b) := by
  rw [zI_div ha hb, zI_mul, zI_sub]
  congr 1
  rw [Int.emod_def, Int.mul_comm]
theorem zL_rem {a b : Int} (ha : 0 ≤ a ∧ a ≤ 9223372036854775807) (hb : 0 < b ∧ b ≤ 9223372036854775807) : zL a - zL a / zL b * zL b = zL (a % b) := by
  rw [zL_div ha hb, zL_mul, zL_sub]
  congr 1
  rw [Int.emod_def, Int.mul_comm]
theorem zI_64 {a : Int} (ha : -2147483648 ≤ a ∧ a ≤ 2147483647) : (zI a).toInt64 = zL a := by
  rw [← Int64.ofInt_int32ToInt, zI_toInt ha]
  rfl
theorem zI_nI (n : Nat) : nI n = zI n := rfl

-- words
def gGood : Cond → Bool
  | .fieldLinkNest _ _ _ _ _ _ => true
  | .methodLinkNest _ _ _ _ => true
  | w => goodWord w
theorem gGood_warm {w : Cond} {s U : State} {args a' : Array Value} (hg : gGood w = true) (hW : s.WarmedH U.vm) (h : w.before args s = true) : w.before a' U = true := by
  cases w with
  | fieldLinkNest a i b n d x => exact va_Nw.use rfl (va_Nw.warmF hW (va_Nw.of rfl h))
  | methodLinkNest a i x y => exact va_Nw.use rfl (va_Nw.warmM hW (va_Nw.of rfl h))
  | _ => exact word_at hW (good_of_word hg) h
def gtb : List Cond := lw_tbl.filter gGood
theorem gtb_of {w : Cond} (h : w ∈ lw_tbl) (hg : gGood w = true) : w ∈ gtb := List.mem_filter.mpr ⟨h, hg⟩
theorem tb_at {w : Cond} (i : Nat) (h : tables_1[i]? = some w) : w ∈ lw_tbl := List.mem_append_right _ (List.mem_of_getElem? h)
theorem tb_sel {w : Cond} (i : Nat) (h : (k2_sels lw_privs)[i]? = some w) : w ∈ lw_tbl := List.mem_append_left _ (List.mem_of_getElem? h)
theorem gtb_at {w : Cond} (i : Nat) (h : tables_1[i]? = some w) (hg : gGood w = true) : w ∈ gtb := gtb_of (tb_at i h) hg
theorem gtb_sel {w : Cond} (i : Nat) (h : (k2_sels lw_privs)[i]? = some w) (hg : gGood w = true) : w ∈ gtb := gtb_of (tb_sel i h) hg
theorem gtb_warm {s U : State} {args : Array Value} (hts : ∀ w ∈ gtb, w.before args s = true) (hW : s.WarmedH U.vm) (w : Cond) (hw : w ∈ gtb) (a' : Array Value) : w.before a' U = true := gGood_warm (List.mem_filter.mp hw).2 hW (hts w hw)
theorem gtb_ws {y : MethodName} {cc : ByteArray} {nL : Nat} {rt : Option FieldType} (h : Cond.code y cc nL rt ∈ gtb) : ∀ w ∈ Cond.code y cc nL rt :: gtb, w ∈ gtb := by
  intro w hw
  rcases List.mem_cons.mp hw with rfl | hw
  · exact h
  · exact hw
def rmD (d : Nat) : Room := { frames := d, cells := 0, slots := 0, locals := 64 * d }

-- the pure heap: ints (fields and elements), longs, the two refs that change
abbrev gH : Type := (Nat → Nat → Int) × (Nat → Nat → Int) × (Nat → Nat)
abbrev gSh : Type := (Nat × List (Nat × Nat)) ⊕ (Nat × Nat × Nat × Nat)
def gsel : List gSh → Nat → gSh
  | [], _ => .inr (9, 0, 0, 0)
  | a :: _, 0 => a
  | _ :: l, n + 1 => gsel l n
def kInt : Nat × Nat := (0, 0)
def shPres (b : Nat) : List gSh := [.inl (2, [(0, 0), (0, 0), (0, 0), (2, b + 1), (2, b + 2), (2, b + 3)]), .inr (0, 6, 0, 0), .inr (0, 6, 0, 0), .inr (0, 7, 0, 0)]
def shTown (b : Nat) : List gSh := [.inl (8, [(0, 0), (0, 0), (0, 0), (0, 0), (0, 0), (2, b + 1), (2, b + 2), (2, b + 3), (2, b + 4), (2, b + 5), (2, b + 6), (2, b + 7), (2, b + 8), (2, b + 9), (2, b + 10)]),
  .inr (0, 6, 0, 0), .inr (0, 6, 0, 0), .inr (0, 7, 0, 0), .inr (0, 7, 0, 0), .inr (0, 7, 0, 0), .inr (0, 7, 0, 0), .inr (0, 7, 0, 0), .inr (0, 7, 0, 0), .inr (0, 7, 0, 0),
  .inl (6, [(0, 0), (2, b + 11), (2, b + 12), (2, b + 13), (0, 0), (2, b + 17), (2, b + 18), (2, b + 19), (2, b + 20), (0, 0), (2, b + 21), (2, b + 22)]),
  .inr (0, 3, 0, 0), .inr (0, 3, 0, 0), .inr (4, 3, b + 14, 1), .inr (0, 6, 0, 0), .inr (0, 6, 0, 0), .inr (0, 6, 0, 0), .inr (0, 5, 0, 0), .inr (0, 5, 0, 0), .inr (0, 5, 0, 0), .inr (0, 5, 0, 0), .inr (0, 125, 0, 0), .inr (0, 4, 0, 0)]
def shModel : List (Nat × Nat) := [(0, 0), (2, 143), (0, 0), (0, 0), (0, 0), (0, 0), (0, 0), (0, 0), (0, 0), (0, 0), (0, 0), (0, 0), (2, 144), (0, 0), (0, 0), (2, 145), (2, 146), (2, 147), (2, 148), (2, 149), (0, 0), (0, 0), (2, 150), (2, 151), (0, 0), (0, 0), (2, 152), (2, 153), (2, 154), (2, 155), (0, 0), (0, 0), (0, 0), (0, 0), (0, 0)]
def shpL : List gSh := [.inl (9, [(2, 1), (2, 52), (2, 56), (2, 135), (2, 138), (2, 141), (3, 0), (0, 0), (0, 0), (0, 0)]), .inl (3, [(2, 2), (2, 4), (2, 5), (0, 0), (0, 0), (0, 0), (0, 0), (0, 0), (3, 1)]), .inl (7, [(2, 3), (0, 0), (0, 0), (0, 0), (0, 0), (0, 0), (0, 0), (1, 0)]), .inr (1, 900, 0, 0), .inr (2, 16, 0, 0), .inr (0, 16, 0, 0)] ++ (shTown 6 ++ (shTown 29 ++ (shPres 52 ++
  ([.inl (1, [(2, 57), (2, 58), (0, 0), (0, 0), (0, 0)]), .inr (3, 16, 59, 4), .inr (3, 3, 123, 4)] ++ ((List.range 19).flatMap (fun j => shPres (59 + 4 * j)) ++
  [.inl (0, [(2, 136), (2, 137)]), .inr (0, 128, 0, 0), .inr (0, 128, 0, 0), .inl (4, [(2, 139), (2, 140)]), .inr (0, 6, 0, 0), .inr (0, 6, 0, 0), .inl (5, [(0, 0)]), .inl (10, shModel), .inr (0, 900, 0, 0), .inr (0, 8, 0, 0), .inr (0, 219, 0, 0), .inr (0, 219, 0, 0), .inr (0, 22, 0, 0), .inr (0, 352, 0, 0), .inr (0, 66, 0, 0), .inr (0, 7, 0, 0), .inr (0, 7, 0, 0), .inr (0, 3, 0, 0), .inr (0, 3, 0, 0), .inr (0, 18, 0, 0), .inr (0, 984, 0, 0), .inr (2, 1, 0, 0)])))))
def NN : Nat := 157
def shp (i : Nat) : gSh := gsel shpL i
theorem gsel_out : ∀ (l : List gSh) (i : Nat), l.length ≤ i → gsel l i = .inr (9, 0, 0, 0)
  | [], _, _ => rfl
  | _ :: l, 0, h => by simp at h
  | _ :: l, i + 1, h => gsel_out l i (by simpa using h)
theorem shpL_len : shpL.length = 157 := by decide +kernel
theorem shp_lt {i : Nat} {x : gSh} (h : shp i = x) (hx : x ≠ .inr (9, 0, 0, 0)) : i < NN := by
  rcases Nat.lt_or_ge i NN with q | q
  · exact q
  · exact absurd (h.symm.trans (gsel_out shpL i (by rw [shpL_len]; exact q))) hx
theorem shp_ltL {i c : Nat} {ks : List (Nat × Nat)} (h : shp i = .inl (c, ks)) : i < NN := shp_lt h (fun q => by cases q)
theorem shp_ltR {i t n b s : Nat} (h : shp i = .inr (t, n, b, s)) (ht : t < 9) : i < NN := shp_lt h (fun q => by cases q; omega)
def up1 (f : Nat → Int) (k : Nat) (x : Int) : Nat → Int := fun j => if j = k then x else f j
def u2 (f : Nat → Nat → Int) (o k : Nat) (x : Int) : Nat → Nat → Int := fun a => if a = o then up1 (f o) k x else f a
theorem up1_s {f : Nat → Int} {k : Nat} {x : Int} : up1 f k x k = x := if_pos rfl
theorem up1_n {f : Nat → Int} {k j : Nat} {x : Int} (h : j ≠ k) : up1 f k x j = f j := if_neg h
theorem u2_s {f : Nat → Nat → Int} {o k : Nat} {x : Int} : u2 f o k x o = up1 (f o) k x := if_pos rfl
theorem u2_n {f : Nat → Nat → Int} {o k a : Nat} {x : Int} (h : a ≠ o) : u2 f o k x a = f a := if_neg h
def gui (h : gH) (o k : Nat) (x : Int) : gH := (u2 h.1 o k x, h.2)
def gul (h : gH) (o k : Nat) (x : Int) : gH := (h.1, u2 h.2.1 o k x, h.2.2)
def gup (h : gH) (a x : Nat) : gH := (h.1, h.2.1, fun b => if b = a then x else h.2.2 b)
def gfv (I : Nat → Int) (L : Nat → Int) (P : Nat → Nat) (k : Nat) (a : Nat × Nat) : Value := match a.1 with
  | 0 => .int (zI (I k))
  | 1 => .long (zL (L k))
  | 2 => .ref a.2
  | _ => .ref (P a.2)
def gfs (I : Nat → Int) (L : Nat → Int) (P : Nat → Nat) : Nat → List (Nat × Nat) → List Value
  | _, [] => []
  | k, a :: l => gfv I L P k a :: gfs I L P (k + 1) l
theorem gfs_get {I : Nat → Int} {L : Nat → Int} {P : Nat → Nat} : ∀ (l : List (Nat × Nat)) (k j : Nat), (gfs I L P k l)[j]? = (l[j]?).map (gfv I L P (k + j))
  | [], _, j => by simp [gfs]
  | a :: l, k, 0 => by simp [gfs]
  | a :: l, k, j + 1 => by
    have h := gfs_get (I := I) (L := L) (P := P) l (k + 1) j
    simp only [gfs, List.getElem?_cons_succ, h]
    rw [show k + 1 + j = k + (j + 1) by omega]
theorem gfs_len {I : Nat → Int} {L : Nat → Int} {P : Nat → Nat} : ∀ (l : List (Nat × Nat)) (k : Nat), (gfs I L P k l).length = l.length
  | [], _ => rfl
  | a :: l, k => by simp [gfs, gfs_len l (k + 1)]
def gv (ad : Nat → Nat) : Value → Value
  | .ref k => .ref (ad k)
  | v => v
theorem gv_cat (ad : Nat → Nat) (v : Value) : (gv ad v).category = v.category := by cases v <;> rfl
def garr (ad : Nat → Nat) (I : Nat → Int) (L : Nat → Int) (t b s : Nat) : (Nat → Int32) ⊕ (Nat → Int64) ⊕ (Nat → UInt32) ⊕ (Nat → UInt64) ⊕ (Nat → Option Nat) := match t with
  | 2 => .inr (.inl (fun j => zL (L j)))
  | 3 => .inr (.inr (.inr (.inr (fun j => some (ad (b + s * j))))))
  | 4 => .inr (.inr (.inr (.inr (fun j => some (ad (b + s * j))))))
  | _ => .inl (fun j => zI (I j))
def gcel (aC : Nat → ClassId) (ad : Nat → Nat) (x : gSh) (I : Nat → Int) (L : Nat → Int) (P : Nat → Nat) : va_E := match x with
  | .inl (ci, ks) => .inr (ci, (gfs I L P 0 ks).map (gv ad))
  | .inr (t, n, b, s) => .inl (aC t, n, garr ad I L t b s)
def gcell (aC : Nat → ClassId) (ad : Nat → Nat) (h : gH) (i : Nat) : va_E := gcel aC ad (shp i) (h.1 i) (h.2.1 i) h.2.2
def gw (aC : Nat → ClassId) (ad : Nat → Nat) (h : gH) : va_W := (List.range NN).map (fun i => (ad i, gcell aC ad h i))
theorem gw_at {aC : Nat → ClassId} {ad : Nat → Nat} {h : gH} {i : Nat} (hi : i < NN) : (gw aC ad h)[i]? = some (ad i, gcell aC ad h i) := by
  simp [gw, hi]
theorem gw_set {aC : Nat → ClassId} {ad : Nat → Nat} {h h' : gH} {o : Nat} {e : va_E} (he : gcell aC ad h' o = e) (hj : ∀ j, j < NN → j ≠ o → gcell aC ad h' j = gcell aC ad h j) : (gw aC ad h).set o (ad o, e) = gw aC ad h' := by
  apply List.ext_getElem?
  intro j
  rw [List.getElem?_set]
  by_cases hjo : o = j
  · subst hjo
    rw [if_pos rfl]
    by_cases hl : o < NN
    · rw [if_pos (by simpa [gw] using hl), gw_at hl, he]
    · rw [if_neg (by simpa [gw] using hl)]
      exact (List.getElem?_eq_none (by simpa [gw] using Nat.not_lt.mp hl)).symm
  · rw [if_neg hjo]
    by_cases hl : j < NN
    · rw [gw_at hl, gw_at hl, hj j hl (fun q => hjo q.symm)]
    · simp [gw, hl]
def gtys (aC : Nat → ClassId) : List (ClassId × FieldType) := [(aC 0, .int), (aC 1, .byte), (aC 2, .long), (aC 3, .object "GrudgeLoft$Present"), (aC 4, .array .int)]
def gInj (ad : Nat → Nat) : Prop := ∀ i j, i < NN → j < NN → ad i = ad j → i = j
def gA (ad : Nat → Nat) (sz : Nat) : Nat → Prop := fun q => (∃ i, i < NN ∧ q = ad i) ∨ sz ≤ q
theorem gw_D {aC : Nat → ClassId} {ad : Nat → Nat} {h : gH} {sz : Nat} (hi : gInj ad) : va_D (gA ad sz) (gw aC ad h) := by
  have key : ∀ (k : Nat) (q : Nat × va_E), (gw aC ad h)[k]? = some q → k < NN ∧ q.1 = ad k := by
    intro k q hq
    have hk : k < NN := by
      have := (List.getElem?_eq_some_iff.mp hq).1
      simpa [gw] using this
    rw [gw_at hk] at hq
    cases hq
    exact ⟨hk, rfl⟩
  refine ⟨fun i j p q hp hq hpq => ?_, fun k q hq => ?_⟩
  · obtain ⟨a1, a2⟩ := key i p hp
    obtain ⟨b1, b2⟩ := key j q hq
    exact hi i j a1 b1 (by rw [← a2, ← b2, hpq])
  · obtain ⟨a1, a2⟩ := key k q hq
    exact Or.inl ⟨k, a1, a2⟩
-- the texts: ids 1000 + k
def strN : List (String) := ["loft", "house", "bird", "stray", "seen", "wings", "hawks", "storm", "at", "coins", "plain", "honest", "proud", "blind", "from", "to", "day", "wrong", "birds", "no such bird is gone"]
def strL : List Nat := [4, 5, 4, 5, 4, 5, 5, 5, 2, 5, 5, 6, 5, 5, 4, 2, 3, 5, 5, 20]
def strB : List (List Int32) := [[108, 111, 102, 116], [104, 111, 117, 115, 101], [98, 105, 114, 100], [115, 116, 114, 97, 121], [115, 101, 101, 110], [119, 105, 110, 103, 115], [104, 97, 119, 107, 115], [115, 116, 111, 114, 109], [97, 116], [99, 111, 105, 110, 115], [112, 108, 97, 105, 110], [104, 111, 110, 101, 115, 116], [112, 114, 111, 117, 100], [98, 108, 105, 110, 100], [102, 114, 111, 109], [116, 111], [100, 97, 121], [119, 114, 111, 110, 103], [98, 105, 114, 100, 115], [110, 111, 32, 115, 117, 99, 104, 32, 98, 105, 114, 100, 32, 105, 115, 32, 103, 111, 110, 101]]
/-- where the texts stand: owner, entry, text, its number -/
def strT : List (String × Nat × String × Nat) :=
  [("GrudgeLoft$Reade\x72", 79, "loft", 0), ("GrudgeLoft$Reade\x72", 124, "wings", 5), ("GrudgeLoft$Reade\x72", 135, "hawks", 6), ("GrudgeLoft$Reade\x72", 139, "storm", 7), ("GrudgeLoft$Reade\x72", 88, "house", 1),
   ("GrudgeLoft$Tape", 61, "loft", 0), ("GrudgeLoft$Tape", 67, "house", 1), ("GrudgeLoft$Tape", 69, "bird", 2), ("GrudgeLoft$Tape", 71, "stray", 3), ("GrudgeLoft$Tape", 73, "seen", 4),
   ("GrudgeLoft$Reade\x72", 146, "at", 8), ("GrudgeLoft$Reade\x72", 150, "coins", 9), ("GrudgeLoft$Reade\x72", 97, "bird", 2), ("GrudgeLoft$Reade\x72", 225, "plain", 10), ("GrudgeLoft$Reade\x72", 227, "honest", 11), ("GrudgeLoft$Reade\x72", 229, "proud", 12), ("GrudgeLoft$Reade\x72", 231, "blind", 13), ("GrudgeLoft$Reade\x72", 160, "from", 14), ("GrudgeLoft$Reade\x72", 170, "to", 15), ("GrudgeLoft$Reade\x72", 175, "day", 16), ("GrudgeLoft$Reade\x72", 180, "wrong", 17), ("GrudgeLoft$Reade\x72", 105, "stray", 3), ("GrudgeLoft$Reade\x72", 117, "seen", 4), ("GrudgeLoft$Reade\x72", 206, "birds", 18),
   ("GrudgeLoft", 379, "no such bird is gone", 19),
   ("GrudgeLoftModel", 122, "loft", 0), ("GrudgeLoftModel", 194, "wings", 5), ("GrudgeLoftModel", 200, "hawks", 6), ("GrudgeLoftModel", 202, "storm", 7), ("GrudgeLoftModel", 124, "house", 1), ("GrudgeLoftModel", 126, "bird", 2), ("GrudgeLoftModel", 128, "stray", 3), ("GrudgeLoftModel", 130, "seen", 4), ("GrudgeLoftModel", 208, "at", 8), ("GrudgeLoftModel", 209, "coins", 9), ("GrudgeLoftModel", 211, "plain", 10), ("GrudgeLoftModel", 213, "honest", 11), ("GrudgeLoftModel", 215, "proud", 12), ("GrudgeLoftModel", 217, "blind", 13), ("GrudgeLoftModel", 219, "from", 14), ("GrudgeLoftModel", 224, "to", 15), ("GrudgeLoftModel", 226, "day", 16), ("GrudgeLoftModel", 228, "wrong", 17), ("GrudgeLoftModel", 229, "birds", 18)]
def gX (ad : Nat → Nat) (A : Nat → Prop) (U : State) (H : Heap) : Prop :=
  (∃ adV : Nat → Nat, vk_S 20 strL strB (fun k => ad (1000 + k)) adV A U H) ∧ (∀ q ∈ strT, vk_R q.1 q.2.1 q.2.2.1 (ad (1000 + q.2.2.2)) U) ∧ (va_Z "java/lang/String" "COMPACT_STRINGS" "Z" (.int 1) A U H ∧ va_Zq "jdk/internal/util/Preconditions" "SIOOBE_FORMATTER" "Ljava/util/function/BiFunction;" A U H)
theorem gX.warm {ad : Nat → Nat} {A B : Nat → Prop} {s U : State} {H0 H : Heap} (h : gX ad A s H0) (hW : s.WarmedH U.vm) (hk : ∀ a : Nat, a < H0.size → ¬ A a → H[a]? = H0[a]?) (hAB : ∀ q, B q → A q) : gX ad B U H := by
  obtain ⟨⟨adV, h1⟩, h2, h3, h4⟩ := h
  exact ⟨⟨adV, ((h1.moved hW.alike).kept hk).narrow hAB⟩, fun q hq => (h2 q hq).warm hW, ((h3.moved hW.alike).kept hk).narrow hAB, ((h4.moved hW.alike).kept hk).narrow hAB⟩
theorem gX.call {ad : Nat → Nat} {A : Nat → Prop} {U : State} {H : Heap} (h : gX ad A U H) (g : JFrame) (mk : MethodId) (a : Array Value) : gX ad A (U.calling g mk a) H := by
  obtain ⟨⟨adV, h1⟩, h2, h3, h4⟩ := h
  exact ⟨⟨adV, h1.moved (Vm.Alike.refl U.vm)⟩, fun q hq => (h2 q hq).same rfl, h3.moved (Vm.Alike.refl U.vm), h4.moved (Vm.Alike.refl U.vm)⟩
-- a method's start and end
def gPre (D : va_G) (aC : Nat → ClassId) (ad : Nat → Nat) (sz : Nat) (h : gH) (U : State) : Prop :=
  U.heap.size = sz ∧ va_P D vwCl (gw aC ad h) U.heap ∧ va_K D vwCl (gtys aC) U ∧ gX ad (gA ad sz) U U.heap
def gQm (D : va_G) (aC : Nat → ClassId) (ad : Nat → Nat) (A : Nat → Prop) (Q : Option Value → gH → Prop) : Array Value → State → Outcome → State → Prop := fun _ st oc t =>
  (∃ (v : Option Value) (h' : gH), oc = .returned (v.map (gv ad)) ∧ Q v h' ∧ va_P D vwCl (gw aC ad h') t.heap) ∧ va_F A st t
/-- the contract of a method, over the pure heap -/
def gSp (d : Nat) (y : MethodName) (cc : ByteArray) (nL : Nat) (rt : Option FieldType) (args : List Value) (h : gH) (Q : Option Value → gH → Prop) : Prop :=
  ∀ (l : Launch) (D : va_G) (aC : Nat → ClassId) (ad : Nat → Nat) (sz : Nat), gInj ad → Met l y (Cond.code y cc nL rt :: gtb) (rmD d) (va_Pc (args.map (gv ad)) (gPre D aC ad sz h)) (gQm D aC ad (gA ad sz) Q) 0 0 (gA ad sz)
theorem gPre_blind {D : va_G} {aC : Nat → ClassId} {ad : Nat → Nat} {sz : Nat} {h : gH} {av : List Value} : FrameBlind (va_Pc av (gPre D aC ad sz h)) := by
  intro a U g mk q
  obtain ⟨q0, q1, q2, q3, q4⟩ := q
  exact ⟨q0, q1, q2, va_K.moved (u := U) (U := U.calling g mk a) (Vm.Alike.refl U.vm) q3, q4.call g mk a⟩
-- the judgement
def gCx (own : String) (cc : ByteArray) (nL : Nat) (rt : Option FieldType) (p : Program) (s : State) (m : MethodId) (args : Array Value) (meth : Method) (c : Code) (D : va_G) (aC : Nat → ClassId) (ad : Nat → Nat) : Prop :=
  p.tables.exec = Jvm.exec ∧ c.code = cc ∧ c.maxLocals = nL ∧ meth.sig.returnType = rt ∧ s.vm.findClass own = some m.cls ∧ (∀ w ∈ gtb, w.before args s = true) ∧ meth.locks = false ∧ va_K D vwCl (gtys aC) s ∧ gInj ad ∧ gX ad (gA ad s.heap.size) s s.heap
def gLs (ad : Nat → Nat) (lsA : Array Slot) (nL : Nat) (ls : List (Option Value)) : Prop := ∃ lv : List (Nat × Value), lv_has lsA nL lv ∧ ∀ (i : Nat) (v : Value), ls[i]? = some (some v) → (i, gv ad v) ∈ lv
def gJ (own : String) (cc : ByteArray) (nL : Nat) (rt : Option FieldType) (d pc : Nat) (ls : List (Option Value)) (st : List Value) (h : gH) (Q : Option Value → gH → Prop) : Prop :=
  ∀ (p : Program) (l : Launch) (e : Env) (s : State) (m : MethodId) (args : Array Value) (below : List Frame) (meth : Method) (c : Code) (D : va_G) (aC : Nat → ClassId) (ad : Nat → Nat), gCx own cc nL rt p s m args meth c D aC ad →
  ∀ (H : Heap) (locs : List Loc) (lsA : Array Slot), va_P D vwCl (gw aC ad h) H → va_S (gA ad s.heap.size) s.heap H locs → gLs ad lsA nL ls →
  W p l e (rmD d) s m args below meth c H locs 0 0 (MQ below (gQm D aC ad (gA ad s.heap.size) Q) args s 0 0 (gA ad s.heap.size)) (F0 m pc lsA (st.map (gv ad)))
theorem gLs.at {ad : Nat → Nat} {lsA : Array Slot} {nL : Nat} {ls : List (Option Value)} (h : gLs ad lsA nL ls) {i : Nat} {v : Value} (hv : ls[i]? = some (some v)) : lsA[i]? = some (.val (gv ad v)) := by
  obtain ⟨lv, h1, h2⟩ := h
  exact h1.2.2 _ (h2 i v hv)
theorem gLs.size {ad : Nat → Nat} {lsA : Array Slot} {nL : Nat} {ls : List (Option Value)} (h : gLs ad lsA nL ls) : lsA.size = nL := by
  obtain ⟨lv, h1, h2⟩ := h
  exact h1.1
def lclr (i : Nat) (ls : List (Option Value)) : List (Option Value) := match i with
  | 0 => ls
  | k + 1 => match ls[k]? with
    | some (some w) => if w.category = 2 then ls.set k none else ls
    | _ => ls
def lst1 (i : Nat) (v : Value) (ls : List (Option Value)) : List (Option Value) := (lclr i ls).set i (some v)
def lst2 (i : Nat) (v : Value) (ls : List (Option Value)) : List (Option Value) := ((lclr i ls).set (i + 1) none).set i (some v)
theorem lclr_at {i j : Nat} {ls : List (Option Value)} {v : Value} (h : (lclr i ls)[j]? = some (some v)) : ls[j]? = some (some v) ∧ ¬ (j + 1 = i ∧ v.category = 2) := by
  cases i with
  | zero => exact ⟨h, by omega⟩
  | succ k =>
    have plain : ls[j]? = some (some v) → (∀ w, ls[k]? = some (some w) → ¬ w.category = 2) → ls[j]? = some (some v) ∧ ¬ (j + 1 = k + 1 ∧ v.category = 2) := by
      intro q hw
      refine ⟨q, fun z => ?_⟩
      have e : j = k := by omega
      subst e
      exact hw v q z.2
    have h : (match ls[k]? with
      | some (some w) => if w.category = 2 then ls.set k none else ls
      | _ => ls)[j]? = some (some v) := h
    cases hk : ls[k]? with
    | none => rw [hk] at h; exact plain h (fun w q => by rw [hk] at q; cases q)
    | some x =>
      cases x with
      | none => rw [hk] at h; exact plain h (fun w q => by rw [hk] at q; cases q)
      | some w =>
        rw [hk] at h
        by_cases hc : w.category = 2
        · simp only [if_pos hc] at h
          rw [List.getElem?_set] at h
          by_cases hj : k = j
          · rw [if_pos hj] at h
            split at h <;> cases h
          · rw [if_neg hj] at h
            exact ⟨h, by omega⟩
        · simp only [if_neg hc] at h
          exact plain h (fun w' q => by rw [hk] at q; cases q; exact hc)
theorem lst1_at {i j : Nat} {ls : List (Option Value)} {v w : Value} (h : (lst1 i v ls)[j]? = some (some w)) : (j = i ∧ w = v) ∨ (j ≠ i ∧ ls[j]? = some (some w) ∧ ¬ (j + 1 = i ∧ w.category = 2)) := by
  unfold lst1 at h
  rw [List.getElem?_set] at h
  by_cases hj : i = j
  · rw [if_pos hj] at h
    split at h
    · cases h; exact Or.inl ⟨hj.symm, rfl⟩
    · cases h
  · rw [if_neg hj] at h
    obtain ⟨a, b⟩ := lclr_at h
    exact Or.inr ⟨fun q => hj q.symm, a, b⟩
theorem lst2_at {i j : Nat} {ls : List (Option Value)} {v w : Value} (h : (lst2 i v ls)[j]? = some (some w)) : (j = i ∧ w = v) ∨ (j ≠ i ∧ j ≠ i + 1 ∧ ls[j]? = some (some w) ∧ ¬ (j + 1 = i ∧ w.category = 2)) := by
  unfold lst2 at h
  rw [List.getElem?_set] at h
  by_cases hj : i = j
  · rw [if_pos hj] at h
    split at h
    · cases h; exact Or.inl ⟨hj.symm, rfl⟩
    · cases h
  · rw [if_neg hj, List.getElem?_set] at h
    by_cases hj2 : i + 1 = j
    · rw [if_pos hj2] at h
      split at h <;> cases h
    · rw [if_neg hj2] at h
      obtain ⟨a, b⟩ := lclr_at h
      exact Or.inr ⟨fun q => hj q.symm, fun q => hj2 q.symm, a, b⟩
theorem gLs.put1 {ad : Nat → Nat} {lsB : Array Slot} {nL i : Nat} {ls : List (Option Value)} {v : Value} {lv : List (Nat × Value)} (h2 : ∀ (i : Nat) (v : Value), ls[i]? = some (some v) → (i, gv ad v) ∈ lv) (hb : lv_has lsB nL ((i, gv ad v) :: lv.filter (fun q => !(q.1 == i) && !(q.1 + 1 == i && q.2.category == 2)))) : gLs ad lsB nL (lst1 i v ls) := by
  refine ⟨_, hb, fun j w hj => ?_⟩
  rcases lst1_at hj with ⟨rfl, rfl⟩ | ⟨a, b, c⟩
  · exact List.mem_cons_self
  · refine List.mem_cons_of_mem _ (List.mem_filter.mpr ⟨h2 j w b, ?_⟩)
    simp only [gv_cat]
    simp [a]
    omega
theorem gLs.put2 {ad : Nat → Nat} {lsB : Array Slot} {nL i : Nat} {ls : List (Option Value)} {v : Value} {lv : List (Nat × Value)} (h2 : ∀ (i : Nat) (v : Value), ls[i]? = some (some v) → (i, gv ad v) ∈ lv) (hb : lv_has lsB nL ((i, gv ad v) :: lv.filter (fun q => !(q.1 == i) && (!(q.1 == i + 1) && !(q.1 + 1 == i && q.2.category == 2))))) : gLs ad lsB nL (lst2 i v ls) := by
  refine ⟨_, hb, fun j w hj => ?_⟩
  rcases lst2_at hj with ⟨rfl, rfl⟩ | ⟨a, a2, b, c⟩
  · exact List.mem_cons_self
  · refine List.mem_cons_of_mem _ (List.mem_filter.mpr ⟨h2 j w b, ?_⟩)
    simp only [gv_cat]
    simp [a, a2]
    omega
/-- fewer locals known -/
def lle : List (Option Value) → List (Option Value) → Prop
  | [], _ => True
  | none :: a, _ :: b => lle a b
  | some v :: a, some w :: b => v = w ∧ lle a b
  | none :: a, [] => lle a []
  | some _ :: _, _ => False
theorem lle_at : ∀ {a b : List (Option Value)}, lle a b → ∀ (i : Nat) (v : Value), a[i]? = some (some v) → b[i]? = some (some v)
  | [], _, _, i, v, h => by simp at h
  | none :: a, _ :: b, h, 0, v, q => by simp at q
  | none :: a, _ :: b, h, i + 1, v, q => by simpa using lle_at (a := a) (b := b) h i v (by simpa using q)
  | some u :: a, some w :: b, h, 0, v, q => by obtain ⟨rfl, -⟩ := h; exact q
  | some u :: a, some w :: b, h, i + 1, v, q => by simpa using lle_at (a := a) (b := b) h.2 i v (by simpa using q)
  | none :: a, [], h, 0, v, q => by simp at q
  | none :: a, [], h, i + 1, v, q => by have := lle_at (a := a) (b := []) h i v (by simpa using q); simp at this
theorem gJ_wk {own : String} {cc : ByteArray} {nL : Nat} {rt : Option FieldType} {d pc : Nat} {ls ls' : List (Option Value)} {st : List Value} {h : gH} {Q : Option Value → gH → Prop} (k : gJ own cc nL rt d pc ls' st h Q) (hl : lle ls' ls) : gJ own cc nL rt d pc ls st h Q := by
  intro p l e s m args below meth c D aC ad C H locs lsA hP hS hL
  obtain ⟨lv, h1, h2⟩ := hL
  exact k p l e s m args below meth c D aC ad C H locs lsA hP hS ⟨lv, h1, fun i v q => h2 i v (lle_at hl i v q)⟩
theorem gJ_post {own : String} {cc : ByteArray} {nL : Nat} {rt : Option FieldType} {d pc : Nat} {ls : List (Option Value)} {st : List Value} {h : gH} {Q Q' : Option Value → gH → Prop} (k : gJ own cc nL rt d pc ls st h Q') (hq : ∀ v h', Q' v h' → Q v h') : gJ own cc nL rt d pc ls st h Q := by
  intro p l e s m args below meth c D aC ad C H locs lsA hP hS hL T hT X
  obtain ⟨t, a, o, b1, b2, b3, b4⟩ := k p l e s m args below meth c D aC ad C H locs lsA hP hS hL T hT X
  refine ⟨t, a, o, b1, b2, ?_, b4⟩
  obtain ⟨⟨v, h', c1, c2, c3⟩, c4⟩ := b3
  exact ⟨⟨v, h', c1, hq v h' c2, c3⟩, c4⟩
