/-! the town by its numbers T, the present by S; methods of Math, Integer, Town -/
def us (a b : Int) : Int := ((zI a).toUInt32 >>> ((zI b).toUInt32 &&& Int32.toUInt32 31)).toInt32.toInt
def an (a b : Int) : Int := (zI a &&& zI b).toInt
def bc1 (m : Int) : Int := m - an (us m 1) 1431655765
def bc2 (m : Int) : Int := an (bc1 m) 858993459 + an (us (bc1 m) 2) 858993459
def bc3 (m : Int) : Int := an (bc2 m + us (bc2 m) 4) 252645135
def bc4 (m : Int) : Int := bc3 m + us (bc3 m) 8
def bcE (m : Int) : Int := an (bc4 m + us (bc4 m) 16) 63
theorem bc_key : ∀ m : Nat, m < 256 → bcE m = ((pcN m : Nat) : Int) := by decide +kernel
theorem s_bitCount {h : gH} {m : Nat} (hm : m < 256) : gSp 1 yJ6_bitCount_0f7a4 cJ6_bitCount_0f7a4 1 (some .int) [.int (zI (m : Int))] h (gR (.int (zI (pcN m : Nat))) h) := by
  refine gSp_of (by decide +kernel) (Nat.le_of_ble_eq_true rfl) ?_
  show gJ RJ6 cJ6_bitCount_0f7a4 1 (some .int) _ 0 [some (.int (zI (m : Int)))] [] _ _
  refine gj_iload_n (pc' := 1) dJ6_bitCount_0f7a4_0 rfl rfl ?_
  refine gj_iload_n (pc' := 2) dJ6_bitCount_0f7a4_1 rfl rfl ?_
  refine gj_iconst (pc' := 3) dJ6_bitCount_0f7a4_2 rfl ?_
  refine gj_iushr (pc' := 4) dJ6_bitCount_0f7a4_3 rfl ?_
  refine gj_ldcw (z := 1431655765) (pc' := 7) dJ6_bitCount_0f7a4_4 rfl (gtb_at 727 (by decide +kernel) rfl) ?_
  refine gj_iand (pc' := 8) dJ6_bitCount_0f7a4_7 rfl ?_
  refine gj_isub (pc' := 9) dJ6_bitCount_0f7a4_8 rfl ?_
  refine gj_istore_n (pc' := 10) dJ6_bitCount_0f7a4_9 rfl (by decide) ?_
  refine gj_iload_n (pc' := 11) dJ6_bitCount_0f7a4_10 rfl rfl ?_
  refine gj_ldcw (z := 858993459) (pc' := 14) dJ6_bitCount_0f7a4_11 rfl (gtb_at 728 (by decide +kernel) rfl) ?_
  refine gj_iand (pc' := 15) dJ6_bitCount_0f7a4_14 rfl ?_
  refine gj_iload_n (pc' := 16) dJ6_bitCount_0f7a4_15 rfl rfl ?_
  refine gj_iconst (pc' := 17) dJ6_bitCount_0f7a4_16 rfl ?_
  refine gj_iushr (pc' := 18) dJ6_bitCount_0f7a4_17 rfl ?_
  refine gj_ldcw (z := 858993459) (pc' := 21) dJ6_bitCount_0f7a4_18 rfl (gtb_at 728 (by decide +kernel) rfl) ?_
  refine gj_iand (pc' := 22) dJ6_bitCount_0f7a4_21 rfl ?_
  refine gj_iadd (pc' := 23) dJ6_bitCount_0f7a4_22 rfl ?_
  refine gj_istore_n (pc' := 24) dJ6_bitCount_0f7a4_23 rfl (by decide) ?_
  refine gj_iload_n (pc' := 25) dJ6_bitCount_0f7a4_24 rfl rfl ?_
  refine gj_iload_n (pc' := 26) dJ6_bitCount_0f7a4_25 rfl rfl ?_
  refine gj_iconst (pc' := 27) dJ6_bitCount_0f7a4_26 rfl ?_
  refine gj_iushr (pc' := 28) dJ6_bitCount_0f7a4_27 rfl ?_
  refine gj_iadd (pc' := 29) dJ6_bitCount_0f7a4_28 rfl ?_
  refine gj_ldcw (z := 252645135) (pc' := 32) dJ6_bitCount_0f7a4_29 rfl (gtb_at 729 (by decide +kernel) rfl) ?_
  refine gj_iand (pc' := 33) dJ6_bitCount_0f7a4_32 rfl ?_
  refine gj_istore_n (pc' := 34) dJ6_bitCount_0f7a4_33 rfl (by decide) ?_
  refine gj_iload_n (pc' := 35) dJ6_bitCount_0f7a4_34 rfl rfl ?_
  refine gj_iload_n (pc' := 36) dJ6_bitCount_0f7a4_35 rfl rfl ?_
  refine gj_bipush (pc' := 38) dJ6_bitCount_0f7a4_36 rfl (by decide) ?_
  refine gj_iushr (pc' := 39) dJ6_bitCount_0f7a4_38 rfl ?_
  refine gj_iadd (pc' := 40) dJ6_bitCount_0f7a4_39 rfl ?_
  refine gj_istore_n (pc' := 41) dJ6_bitCount_0f7a4_40 rfl (by decide) ?_
  refine gj_iload_n (pc' := 42) dJ6_bitCount_0f7a4_41 rfl rfl ?_
  refine gj_iload_n (pc' := 43) dJ6_bitCount_0f7a4_42 rfl rfl ?_
  refine gj_bipush (pc' := 45) dJ6_bitCount_0f7a4_43 rfl (by decide) ?_
  refine gj_iushr (pc' := 46) dJ6_bitCount_0f7a4_45 rfl ?_
  refine gj_iadd (pc' := 47) dJ6_bitCount_0f7a4_46 rfl ?_
  refine gj_istore_n (pc' := 48) dJ6_bitCount_0f7a4_47 rfl (by decide) ?_
  refine gj_iload_n (pc' := 49) dJ6_bitCount_0f7a4_48 rfl rfl ?_
  refine gj_bipush (pc' := 51) dJ6_bitCount_0f7a4_49 rfl (by decide) ?_
  refine gj_iand (pc' := 52) dJ6_bitCount_0f7a4_51 rfl ?_
  refine gj_iret rfl dJ6_bitCount_0f7a4_52 ?_
  exact gR_i (show bcE m = _ from bc_key m hm)
-- the numbers of a town
def nD (a b : Nat) : Nat := if b < a then a - b else b - a
def tPl (T : Nat → Nat) (h : Nat) : Nat := T (7 + 2 * h)
def tNear (T : Nat → Nat) (h : Nat) : Nat := fN (fun k n => if k ≠ h ∧ (n = h ∨ nD (tPl T k) (tPl T h) < nD (tPl T n) (tPl T h)) then k else n) h (T 3)
def tSill (T : Nat → Nat) (b : Nat) : Nat := if T (19 + 5 * b) = 3 then tNear T (T (21 + 5 * b)) else T (21 + 5 * b)
def tAp (T : Nat → Nat) (a b : Nat) : Nat := (nD (tPl T a) (tPl T b) + T 0 - 1) / T 0
def tFl (T : Nat → Nat) (b : Nat) : Nat := tAp T (T (20 + 5 * b)) (tSill T b)
def tNeF (k w : Nat) : Nat := if k = 1 then (w + 1) / 2 else if k = 2 then 2 * w else w
def tNe (T : Nat → Nat) (b : Nat) : Nat := tNeF (T (19 + 5 * b)) (T (23 + 5 * b))
def tSf (T : Nat → Nat) (b : Nat) : Nat := T (22 + 5 * b) + tFl T b
def sGone (S : Nat → Nat) (b : Nat) : Bool := (S 19).testBit b
def tLe (T S : Nat → Nat) (b : Nat) : Nat := tNe T b - S b
def sWh (T S : Nat → Nat) (b day : Nat) : Nat := if sGone S b then 3 else if day < T (22 + 5 * b) then 0 else if day < tSf T b then 1 else 2
def sSit (T S : Nat → Nat) (h day b : Nat) : Bool := tSill T b == h && (sWh T S b day == 2)
def sSet (T S : Nat → Nat) (h day : Nat) : Nat := bN (sSit T S h day) (T 4)
def sFor (T S : Nat → Nat) (h b : Nat) : Bool := (T (21 + 5 * b) == h) && !sGone S b
def sAg (T S : Nat → Nat) (h : Nat) : Nat := bN (sFor T S h) (T 4)
def TV (T : Nat → Nat) : Prop := (1 ≤ T 0 ∧ T 0 ≤ 50) ∧ T 1 ≤ 100 ∧ T 2 ≤ 100 ∧ (2 ≤ T 3 ∧ T 3 ≤ 6) ∧ T 4 ≤ 7 ∧ T 5 ≤ 3 ∧ T 6 ≤ 5 ∧ (∀ h, h < T 3 → T (7 + 2 * h) ≤ 99 ∧ T (8 + 2 * h) ≤ 300) ∧ (∀ b, b < T 4 → T (19 + 5 * b) ≤ 3 ∧ T (20 + 5 * b) < T 3 ∧ T (21 + 5 * b) < T 3 ∧ T (20 + 5 * b) ≠ T (21 + 5 * b) ∧ T (22 + 5 * b) ≤ 30 ∧ 1 ≤ T (23 + 5 * b) ∧ T (23 + 5 * b) ≤ 60) ∧ (∀ s, s < T 5 → T (54 + 2 * s) < T 3 ∧ T (55 + 2 * s) ≤ 30) ∧ (∀ n, n < T 6 → T (60 + 3 * n) < T 3 ∧ T (61 + 3 * n) ≤ 30 ∧ T (62 + 3 * n) ≤ 9)
def SV (T S : Nat → Nat) : Prop := (∀ b, b < T 4 → S b ≤ tNe T b) ∧ S 19 < 2 ^ T 4 ∧ S 20 ≤ 999 ∧ (∀ k, k < T 3 → S (7 + k) ≤ 7 * S 20) ∧ (∀ k, k < T 3 → S (13 + k) ≤ 300)
def isT (t : Nat) : Prop := t = 6 ∨ t = 29
def shTk (b : Nat) : List (Nat × Nat) := [(0, 0), (0, 0), (0, 0), (0, 0), (0, 0), (2, b + 1), (2, b + 2), (2, b + 3), (2, b + 4), (2, b + 5), (2, b + 6), (2, b + 7), (2, b + 8), (2, b + 9), (2, b + 10)]
def shSk (b : Nat) : List (Nat × Nat) := [(0, 0), (2, b + 11), (2, b + 12), (2, b + 13), (0, 0), (2, b + 17), (2, b + 18), (2, b + 19), (2, b + 20), (0, 0), (2, b + 21), (2, b + 22)]
theorem shT {t : Nat} (ht : isT t) : shp t = .inl (8, shTk t) ∧ shp (t + 1) = .inr (0, 6, 0, 0) ∧ shp (t + 2) = .inr (0, 6, 0, 0) ∧ shp (t + 3) = .inr (0, 7, 0, 0) ∧ shp (t + 4) = .inr (0, 7, 0, 0) ∧ shp (t + 5) = .inr (0, 7, 0, 0) ∧ shp (t + 6) = .inr (0, 7, 0, 0) ∧ shp (t + 7) = .inr (0, 7, 0, 0) ∧ shp (t + 8) = .inr (0, 7, 0, 0) ∧ shp (t + 9) = .inr (0, 7, 0, 0) ∧ shp (t + 10) = .inl (6, shSk t) := by
  rcases ht with rfl | rfl <;> exact ⟨rfl, rfl, rfl, rfl, rfl, rfl, rfl, rfl, rfl, rfl, rfl⟩
theorem shS {t : Nat} (ht : isT t) : shp (t + 10) = .inl (6, shSk t) ∧ shp (t + 11) = .inr (0, 3, 0, 0) ∧ shp (t + 12) = .inr (0, 3, 0, 0) ∧ shp (t + 13) = .inr (4, 3, t + 14, 1) ∧ (∀ s, s < 3 → shp (t + 14 + s) = .inr (0, 6, 0, 0)) ∧ shp (t + 17) = .inr (0, 5, 0, 0) ∧ shp (t + 18) = .inr (0, 5, 0, 0) ∧ shp (t + 19) = .inr (0, 5, 0, 0) ∧ shp (t + 20) = .inr (0, 5, 0, 0) ∧ shp (t + 21) = .inr (0, 125, 0, 0) ∧ shp (t + 22) = .inr (0, 4, 0, 0) := by
  rcases ht with rfl | rfl <;> exact ⟨rfl, rfl, rfl, rfl, fun s hs => (match s, hs with | 0, _ => rfl | 1, _ => rfl | 2, _ => rfl), rfl, rfl, rfl, rfl, rfl, rfl⟩
/-- what a Town object holds that the text tells -/
def TownA (h : gH) (t : Nat) (T : Nat → Nat) : Prop := (∀ k, k < 5 → h.1 t k = (T k : Int)) ∧ (∀ k, k < T 3 → h.1 (t + 1) k = (T (7 + 2 * k) : Int) ∧ h.1 (t + 2) k = (T (8 + 2 * k) : Int)) ∧ (∀ b, b < T 4 → h.1 (t + 3) b = (T (19 + 5 * b) : Int) ∧ h.1 (t + 4) b = (T (20 + 5 * b) : Int) ∧ h.1 (t + 5) b = (T (21 + 5 * b) : Int) ∧ h.1 (t + 6) b = (T (22 + 5 * b) : Int) ∧ h.1 (t + 7) b = (tNe T b : Int))
/-- what follows from it -/
def TownB (h : gH) (t : Nat) (T : Nat → Nat) : Prop := ∀ b, b < T 4 → h.1 (t + 8) b = (tSill T b : Int) ∧ h.1 (t + 9) b = (tFl T b : Int)
def PresIs (h : gH) (T S : Nat → Nat) : Prop := h.1 52 0 = (S 20 : Int) ∧ h.1 52 1 = (S 21 : Int) ∧ h.1 52 2 = (S 19 : Int) ∧ (∀ k, k < T 3 → h.1 53 k = (S (13 + k) : Int) ∧ h.1 54 k = (S (7 + k) : Int)) ∧ (∀ b, b < T 4 → h.1 55 b = (S b : Int))
theorem nD_le {a b c : Nat} (ha : a ≤ c) (hb : b ≤ c) : nD a b ≤ c := by unfold nD; split <;> omega
theorem fN_inv {α : Type} {step : Nat → α → α} {a : α} (P : α → Prop) (h0 : P a) : ∀ n, (∀ k x, k < n → P x → P (step k x)) → P (fN step a n)
  | 0, _ => h0
  | n + 1, h => h n _ (by omega) (fN_inv P h0 n (fun k x hk => h k x (by omega)))
theorem tNear_lt {T : Nat → Nat} {h : Nat} (hh : h < T 3) : tNear T h < T 3 := by
  unfold tNear
  refine fN_inv (fun x => x < T 3) hh _ (fun k x hk hx => ?_)
  show (if _ then k else x) < T 3
  split <;> assumption
theorem tSill_lt {T : Nat → Nat} (hT : TV T) {b : Nat} (hb : b < T 4) : tSill T b < T 3 := by
  obtain ⟨-, -, -, -, -, -, -, -, h9, -⟩ := hT
  have := (h9 b hb).2.2.1
  unfold tSill
  split
  · exact tNear_lt this
  · exact this
theorem tAp_le {T : Nat → Nat} (hT : TV T) {a b : Nat} (ha : a < T 3) (hb : b < T 3) : tAp T a b ≤ 148 := by
  obtain ⟨h0, -, -, -, -, -, -, h8, -⟩ := hT
  have h1 := nD_le (h8 a ha).1 (h8 b hb).1
  unfold tAp
  have h2 := Nat.div_le_self (nD (tPl T a) (tPl T b) + T 0 - 1) (T 0)
  have h3 : nD (tPl T a) (tPl T b) ≤ 99 := h1
  omega
theorem tFl_le {T : Nat → Nat} (hT : TV T) {b : Nat} (hb : b < T 4) : tFl T b ≤ 148 := tAp_le hT (hT.2.2.2.2.2.2.2.2.1 b hb).2.1 (tSill_lt hT hb)
theorem tNe_le {T : Nat → Nat} (hT : TV T) {b : Nat} (hb : b < T 4) : tNe T b ≤ 120 := by
  obtain ⟨-, -, -, -, -, -, -, -, h9, -⟩ := hT
  have := (h9 b hb).2.2.2.2.2.2
  unfold tNe tNeF
  split
  · omega
  · split <;> omega
theorem tSf_le {T : Nat → Nat} (hT : TV T) {b : Nat} (hb : b < T 4) : tSf T b ≤ 178 := by
  have h1 := tFl_le hT hb
  have h2 := (hT.2.2.2.2.2.2.2.2.1 b hb).2.2.2.2.1
  unfold tSf
  omega
-- Town's methods
theorem s_distance {h : gH} {t a b pa pb : Nat} (ht : isT t) (ha : a < 6) (hb : b < 6) (h1 : h.1 (t + 1) a = (pa : Int)) (h2 : h.1 (t + 1) b = (pb : Int)) (h3 : pa ≤ 99) (h4 : pb ≤ 99) : gSp 2 yX9_distance cX9_distance 3 (some .int) [.ref t, .int (zI (a : Int)), .int (zI (b : Int))] h (gR (.int (zI (nD pa pb : Nat))) h) := by
  obtain ⟨s0, s1, -⟩ := shT ht
  refine gSp_of (by decide +kernel) (Nat.le_of_ble_eq_true rfl) ?_
  show gJ RX9 cX9_distance 3 (some .int) _ 0 [some (.ref t), some (.int (zI (a : Int))), some (.int (zI (b : Int)))] [] _ _
  refine gj_aload_n (pc' := 1) dX9_distance_0 rfl rfl ?_
  refine gf_X9_9 (pc' := 4) dX9_distance_1 rfl (by first | rfl | assumption) rfl ?_
  refine gj_iload_n (pc' := 5) dX9_distance_4 rfl rfl ?_
  refine gj_iald (pc' := 6) (by first | rfl | assumption) rfl (by omega) (by decide) dX9_distance_5 rfl ?_
  rw [h1]
  refine gj_aload_n (pc' := 7) dX9_distance_6 rfl rfl ?_
  refine gf_X9_9 (pc' := 10) dX9_distance_7 rfl (by first | rfl | assumption) rfl ?_
  refine gj_iload_n (pc' := 11) dX9_distance_10 rfl rfl ?_
  refine gj_iald (pc' := 12) (by first | rfl | assumption) rfl (by omega) (by decide) dX9_distance_11 rfl ?_
  rw [h2]
  refine gj_isub (pc' := 13) dX9_distance_12 rfl ?_
  refine gj_mabs (pc' := 16) dX9_distance_13 rfl wm_X9_75 (by decide) (by omega) (Nat.le_of_ble_eq_true rfl) ?_
  refine gj_iret rfl dX9_distance_16 ?_
  exact gR_i (by unfold nD; split <;> omega)
theorem s_daysApart {h : gH} {t a b : Nat} {T : Nat → Nat} (ht : isT t) (hT : TV T) (hA : TownA h t T) (ha : a < T 3) (hb : b < T 3) : gSp 3 yX9_daysApart cX9_daysApart 3 (some .int) [.ref t, .int (zI (a : Int)), .int (zI (b : Int))] h (gR (.int (zI (tAp T a b : Nat))) h) := by
  obtain ⟨s0, s1, -⟩ := shT ht
  obtain ⟨h0, -, -, h3, -, -, -, h8, -⟩ := id hT
  obtain ⟨k1, k2, k3⟩ := id hA
  have hw : h.1 t 0 = (T 0 : Int) := k1 0 (by omega)
  have d1 : nD (tPl T a) (tPl T b) ≤ 99 := nD_le (h8 a ha).1 (h8 b hb).1
  refine gSp_of (by decide +kernel) (Nat.le_of_ble_eq_true rfl) ?_
  show gJ RX9 cX9_daysApart 3 (some .int) _ 0 [some (.ref t), some (.int (zI (a : Int))), some (.int (zI (b : Int)))] [] _ _
  refine gj_aload_n (pc' := 1) dX9_daysApart_0 rfl rfl ?_
  refine gf_X9_44 (pc' := 4) dX9_daysApart_1 rfl (by first | rfl | assumption) rfl ?_
  rw [hw]
  refine gj_iconst (pc' := 5) dX9_daysApart_4 rfl ?_
  refine gj_icmp_ge (pc' := 8) (tgt := 12) dX9_daysApart_5 (by decide) rfl (by omega) (fun c5 => ?_) (fun c5 => ?_)
  · refine gj_aload_n (pc' := 13) dX9_daysApart_12 rfl rfl ?_
    refine gj_iload_n (pc' := 14) dX9_daysApart_13 rfl rfl ?_
    refine gj_iload_n (pc' := 15) dX9_daysApart_14 rfl rfl ?_
    refine gr_X9_80 (pc' := 18) dX9_daysApart_15 rfl (s_distance (pa := tPl T a) (pb := tPl T b) ht (by omega) (by omega) (k2 a ha).1 (k2 b hb).1 (h8 a ha).1 (h8 b hb).1) rfl (by first | rfl | assumption) (by decide) rfl (Nat.le_of_ble_eq_true rfl) ?_
    refine gj_aload_n (pc' := 19) dX9_daysApart_18 rfl rfl ?_
    refine gf_X9_44 (pc' := 22) dX9_daysApart_19 rfl (by first | rfl | assumption) rfl ?_
    rw [hw]
    refine gj_iadd (pc' := 23) dX9_daysApart_22 rfl ?_
    refine gj_iconst (pc' := 24) dX9_daysApart_23 rfl ?_
    refine gj_isub (pc' := 25) dX9_daysApart_24 rfl ?_
    refine gj_aload_n (pc' := 26) dX9_daysApart_25 rfl rfl ?_
    refine gf_X9_44 (pc' := 29) dX9_daysApart_26 rfl (by first | rfl | assumption) rfl ?_
    rw [hw]
    refine gj_idiv (pc' := 30) dX9_daysApart_29 rfl (by omega) (by omega) ?_
    refine gj_iret rfl dX9_daysApart_30 ?_
    first | omega | exact gR_i (by unfold tAp; rw [Int.natCast_ediv]; congr 1; omega)
  · refine gj_iconst (pc' := 9) dX9_daysApart_8 rfl ?_
    refine gj_goto (pc' := 30) dX9_daysApart_9 (by decide) ?_
    refine gj_iret rfl dX9_daysApart_30 ?_
    first | omega | exact gR_i (by unfold tAp; rw [Int.natCast_ediv]; congr 1; omega)
theorem s_nearestTo {h : gH} {t a : Nat} {T : Nat → Nat} (ht : isT t) (hT : TV T) (hA : TownA h t T) (ha : a < T 3) : gSp 3 yX9_nearestTo cX9_nearestTo 4 (some .int) [.ref t, .int (zI (a : Int))] h (gR (.int (zI (tNear T a : Nat))) h) := by
  obtain ⟨s0, s1, -⟩ := shT ht
  obtain ⟨h0, -, -, h3, -, -, -, h8, -⟩ := id hT
  obtain ⟨k1, k2, k3⟩ := id hA
  have hw : h.1 t 3 = (T 3 : Int) := k1 3 (by omega)
  have loop : ∀ k b : Nat, T 3 - b < k → b ≤ T 3 → gJ RX9 cX9_nearestTo 4 (some .int) 3 4 [some (.ref t), some (.int (zI (a : Int))), some (.int (zI ((fN (fun k n => if k ≠ a ∧ (n = a ∨ nD (tPl T k) (tPl T a) < nD (tPl T n) (tPl T a)) then k else n) a b : Nat) : Int))), some (.int (zI (b : Int)))] [] h (gR (.int (zI (tNear T a : Nat))) h) := by
    intro k
    induction k with
    | zero => intro b q1; omega
    | succ k ih =>
      intro b q1 q2
      have hn : fN (fun k n => if k ≠ a ∧ (n = a ∨ nD (tPl T k) (tPl T a) < nD (tPl T n) (tPl T a)) then k else n) a b < T 3 := fN_inv (fun x => x < T 3) ha _ (fun k x hk hx => by
        show (if _ then k else x) < T 3
        split <;> omega)
      have hs : fN (fun k n => if k ≠ a ∧ (n = a ∨ nD (tPl T k) (tPl T a) < nD (tPl T n) (tPl T a)) then k else n) a (b + 1) = (if b ≠ a ∧ (fN (fun k n => if k ≠ a ∧ (n = a ∨ nD (tPl T k) (tPl T a) < nD (tPl T n) (tPl T a)) then k else n) a b = a ∨ nD (tPl T b) (tPl T a) < nD (tPl T (fN (fun k n => if k ≠ a ∧ (n = a ∨ nD (tPl T k) (tPl T a) < nD (tPl T n) (tPl T a)) then k else n) a b)) (tPl T a)) then b else fN (fun k n => if k ≠ a ∧ (n = a ∨ nD (tPl T k) (tPl T a) < nD (tPl T n) (tPl T a)) then k else n) a b) := rfl
      have ih' := fun q : b < T 3 => ih (b + 1) (by omega) (by omega)
      rw [hs] at ih'
      have he : b = T 3 → tNear T a = fN (fun k n => if k ≠ a ∧ (n = a ∨ nD (tPl T k) (tPl T a) < nD (tPl T n) (tPl T a)) then k else n) a b := fun q => by rw [q]; rfl
      generalize fN (fun k n => if k ≠ a ∧ (n = a ∨ nD (tPl T k) (tPl T a) < nD (tPl T n) (tPl T a)) then k else n) a b = x at hn ih' he ⊢
      refine gj_iload_n (pc' := 5) dX9_nearestTo_4 rfl rfl ?_
      refine gj_aload_n (pc' := 6) dX9_nearestTo_5 rfl rfl ?_
      refine gf_X9_54 (pc' := 9) dX9_nearestTo_6 rfl (by first | rfl | assumption) rfl ?_
      rw [hw]
      refine gj_icmp_ge (pc' := 12) (tgt := 45) dX9_nearestTo_9 (by decide) rfl (by omega) (fun c9 => ?_) (fun c9 => ?_)
      · refine gj_iload_n (pc' := 46) dX9_nearestTo_45 rfl rfl ?_
        refine gj_iret rfl dX9_nearestTo_46 ?_
        exact gR_i (by rw [he (by omega)])
      · refine gj_iload_n (pc' := 13) dX9_nearestTo_12 rfl rfl ?_
        refine gj_iload_n (pc' := 14) dX9_nearestTo_13 rfl rfl ?_
        refine gj_icmp_eq (pc' := 17) (tgt := 39) dX9_nearestTo_14 (by decide) rfl (by omega) (fun c14 => ?_) (fun c14 => ?_)
        · refine gj_iinc (pc' := 42) dX9_nearestTo_39 rfl rfl (by decide) ?_
          refine gj_goto (pc' := 4) dX9_nearestTo_42 (by decide) ?_
          refine gJ_wk (ih' (by omega)) ?_
          repeat' (first | exact True.intro | exact rfl | refine And.intro ?_ ?_ | refine vI ?_)
          all_goals (first | (split <;> omega) | omega)
        · refine gj_iload_n (pc' := 18) dX9_nearestTo_17 rfl rfl ?_
          refine gj_iload_n (pc' := 19) dX9_nearestTo_18 rfl rfl ?_
          refine gj_icmp_eq (pc' := 22) (tgt := 37) dX9_nearestTo_19 (by decide) rfl (by omega) (fun c19 => ?_) (fun c19 => ?_)
          · refine gj_iload_n (pc' := 38) dX9_nearestTo_37 rfl rfl ?_
            refine gj_istore_n (pc' := 39) dX9_nearestTo_38 rfl (by decide) ?_
            refine gj_iinc (pc' := 42) dX9_nearestTo_39 rfl rfl (by decide) ?_
            refine gj_goto (pc' := 4) dX9_nearestTo_42 (by decide) ?_
            refine gJ_wk (ih' (by omega)) ?_
            repeat' (first | exact True.intro | exact rfl | refine And.intro ?_ ?_ | refine vI ?_)
            all_goals (first | (split <;> omega) | omega)
          · refine gj_aload_n (pc' := 23) dX9_nearestTo_22 rfl rfl ?_
            refine gj_iload_n (pc' := 24) dX9_nearestTo_23 rfl rfl ?_
            refine gj_iload_n (pc' := 25) dX9_nearestTo_24 rfl rfl ?_
            refine gr_X9_80 (pc' := 28) dX9_nearestTo_25 rfl (s_distance (pa := tPl T b) (pb := tPl T a) ht (by omega) (by omega) (k2 b (by omega)).1 (k2 a ha).1 (h8 b (by omega)).1 (h8 a ha).1) rfl (by first | rfl | assumption) (by decide) rfl (Nat.le_of_ble_eq_true rfl) ?_
            refine gj_aload_n (pc' := 29) dX9_nearestTo_28 rfl rfl ?_
            refine gj_iload_n (pc' := 30) dX9_nearestTo_29 rfl rfl ?_
            refine gj_iload_n (pc' := 31) dX9_nearestTo_30 rfl rfl ?_
            refine gr_X9_80 (pc' := 34) dX9_nearestTo_31 rfl (s_distance (pa := tPl T x) (pb := tPl T a) ht (by omega) (by omega) (k2 x hn).1 (k2 a ha).1 (h8 x hn).1 (h8 a ha).1) rfl (by first | rfl | assumption) (by decide) rfl (Nat.le_of_ble_eq_true rfl) ?_
            refine gj_icmp_ge (pc' := 37) (tgt := 39) dX9_nearestTo_34 (by decide) rfl (by have e1 := nD_le (h8 b (by omega)).1 (h8 a ha).1; have e2 := nD_le (h8 x hn).1 (h8 a ha).1; unfold tPl; omega) (fun c34 => ?_) (fun c34 => ?_)
            · refine gj_iinc (pc' := 42) dX9_nearestTo_39 rfl rfl (by decide) ?_
              refine gj_goto (pc' := 4) dX9_nearestTo_42 (by decide) ?_
              refine gJ_wk (ih' (by omega)) ?_
              repeat' (first | exact True.intro | exact rfl | refine And.intro ?_ ?_ | refine vI ?_)
              all_goals (first | (split <;> omega) | omega)
            · refine gj_iload_n (pc' := 38) dX9_nearestTo_37 rfl rfl ?_
              refine gj_istore_n (pc' := 39) dX9_nearestTo_38 rfl (by decide) ?_
              refine gj_iinc (pc' := 42) dX9_nearestTo_39 rfl rfl (by decide) ?_
              refine gj_goto (pc' := 4) dX9_nearestTo_42 (by decide) ?_
              refine gJ_wk (ih' (by omega)) ?_
              repeat' (first | exact True.intro | exact rfl | refine And.intro ?_ ?_ | refine vI ?_)
              all_goals (first | (split <;> omega) | omega)
  refine gSp_of (by decide +kernel) (Nat.le_of_ble_eq_true rfl) ?_
  show gJ RX9 cX9_nearestTo 4 (some .int) _ 0 [some (.ref t), some (.int (zI (a : Int))), none, none] [] _ _
  refine gj_iload_n (pc' := 1) dX9_nearestTo_0 rfl rfl ?_
  refine gj_istore_n (pc' := 2) dX9_nearestTo_1 rfl (by decide) ?_
  refine gj_iconst (pc' := 3) dX9_nearestTo_2 rfl ?_
  refine gj_istore_n (pc' := 4) dX9_nearestTo_3 rfl (by decide) ?_
  exact loop (T 3 + 1) 0 (by omega) (by omega)
theorem s_sitsFrom {h : gH} {t b : Nat} {T : Nat → Nat} (ht : isT t) (hA : TownA h t T) (hB : TownB h t T) (hT : TV T) (hb : b < T 4) : gSp 2 yX9_sitsFrom cX9_sitsFrom 2 (some .int) [.ref t, .int (zI (b : Int))] h (gR (.int (zI (tSf T b : Nat))) h) := by
  obtain ⟨s0, -, -, -, -, -, s6, -, -, s9, -⟩ := shT ht
  obtain ⟨-, -, -, -, h4, -⟩ := id hT
  obtain ⟨k1, k2, k3⟩ := id hA
  refine gSp_of (by decide +kernel) (Nat.le_of_ble_eq_true rfl) ?_
  show gJ RX9 cX9_sitsFrom 2 (some .int) _ 0 [some (.ref t), some (.int (zI (b : Int)))] [] _ _
  refine gj_aload_n (pc' := 1) dX9_sitsFrom_0 rfl rfl ?_
  refine gf_X9_25 (pc' := 4) dX9_sitsFrom_1 rfl (by first | rfl | assumption) rfl ?_
  refine gj_iload_n (pc' := 5) dX9_sitsFrom_4 rfl rfl ?_
  refine gj_iald (pc' := 6) (by first | rfl | assumption) rfl (by omega) (by decide) dX9_sitsFrom_5 rfl ?_
  rw [(k3 b hb).2.2.2.1]
  refine gj_aload_n (pc' := 7) dX9_sitsFrom_6 rfl rfl ?_
  refine gf_X9_34 (pc' := 10) dX9_sitsFrom_7 rfl (by first | rfl | assumption) rfl ?_
  refine gj_iload_n (pc' := 11) dX9_sitsFrom_10 rfl rfl ?_
  refine gj_iald (pc' := 12) (by first | rfl | assumption) rfl (by omega) (by decide) dX9_sitsFrom_11 rfl ?_
  rw [(hB b hb).2]
  refine gj_iadd (pc' := 13) dX9_sitsFrom_12 rfl ?_
  refine gj_iret rfl dX9_sitsFrom_13 ?_
  exact gR_i (by unfold tSf; omega)
theorem s_needBy {h : gH} {k w : Nat} (hk : k ≤ 3) (hw : w ≤ 60) : gSp 1 yX9_needBy cX9_needBy 2 (some .int) [.int (zI (k : Int)), .int (zI (w : Int))] h (gR (.int (zI (tNeF k w : Nat))) h) := by
  refine gSp_of (by decide +kernel) (Nat.le_of_ble_eq_true rfl) ?_
  show gJ RX9 cX9_needBy 2 (some .int) _ 0 [some (.int (zI (k : Int))), some (.int (zI (w : Int)))] [] _ _
  refine gj_iload_n (pc' := 1) dX9_needBy_0 rfl rfl ?_
  refine gj_iconst (pc' := 2) dX9_needBy_1 rfl ?_
  refine gj_icmp_ne (pc' := 5) (tgt := 11) dX9_needBy_2 (by decide) rfl (by omega) (fun c2 => ?_) (fun c2 => ?_)
  · refine gj_iload_n (pc' := 12) dX9_needBy_11 rfl rfl ?_
    refine gj_iconst (pc' := 13) dX9_needBy_12 rfl ?_
    refine gj_icmp_ne (pc' := 16) (tgt := 22) dX9_needBy_13 (by decide) rfl (by omega) (fun c13 => ?_) (fun c13 => ?_)
    · refine gj_iload_n (pc' := 23) dX9_needBy_22 rfl rfl ?_
      refine gj_iret rfl dX9_needBy_23 ?_
      exact gR_i (by unfold tNeF; split <;> (try split) <;> omega)
    · refine gj_iconst (pc' := 17) dX9_needBy_16 rfl ?_
      refine gj_iload_n (pc' := 18) dX9_needBy_17 rfl rfl ?_
      refine gj_imul (pc' := 19) dX9_needBy_18 rfl ?_
      refine gj_goto (pc' := 23) dX9_needBy_19 (by decide) ?_
      refine gj_iret rfl dX9_needBy_23 ?_
      exact gR_i (by unfold tNeF; split <;> (try split) <;> omega)
  · refine gj_iload_n (pc' := 6) dX9_needBy_5 rfl rfl ?_
    refine gj_iconst (pc' := 7) dX9_needBy_6 rfl ?_
    refine gj_iadd (pc' := 8) dX9_needBy_7 rfl ?_
    refine gj_iconst (pc' := 9) dX9_needBy_8 rfl ?_
    refine gj_idiv (pc' := 10) dX9_needBy_9 rfl (by omega) (by omega) ?_
    refine gj_iret rfl dX9_needBy_10 ?_
    exact gR_i (by unfold tNeF; split <;> (try split) <;> omega)
def satN (T : Nat → Nat) (h day b : Nat) : Nat := if tSill T b = h ∧ tSf T b ≤ day then 1 else 0
theorem s_sittersIf {h : gH} {t hs day : Nat} {T : Nat → Nat} (ht : isT t) (hT : TV T) (hA : TownA h t T) (hB : TownB h t T) (hh : hs < 6) (hd : day ≤ 2000) : gSp 3 yX9_sittersIfNoneGoes cX9_sittersIfNoneGoes 5 (some .int) [.ref t, .int (zI (hs : Int)), .int (zI (day : Int))] h (gR (.int (zI (sN (satN T hs day) (T 4) : Nat))) h) := by
  obtain ⟨s0, -, -, -, -, -, s6, -, s8, s9, -⟩ := shT ht
  obtain ⟨-, -, -, h3, h4, -⟩ := id hT
  have hw : h.1 t 4 = (T 4 : Int) := hA.1 4 (by omega)
  have loop : ∀ k b : Nat, T 4 - b < k → b ≤ T 4 → gJ RX9 cX9_sittersIfNoneGoes 5 (some .int) 3 5 [some (.ref t), some (.int (zI (hs : Int))), some (.int (zI (day : Int))), some (.int (zI (sN (satN T hs day) b : Nat))), some (.int (zI (b : Int)))] [] h (gR (.int (zI (sN (satN T hs day) (T 4) : Nat))) h) := by
    intro k
    induction k with
    | zero => intro b q1; omega
    | succ k ih =>
      intro b q1 q2
      have e1 : b < T 4 → tSill T b < 6 := fun q => by have := tSill_lt hT q; omega
      have e2 : b < T 4 → tSf T b ≤ 178 := fun q => tSf_le hT q
      have es : sN (satN T hs day) (b + 1) = sN (satN T hs day) b + satN T hs day b := rfl
      refine gj_iload (pc' := 7) dX9_sittersIfNoneGoes_5 rfl rfl ?_
      refine gj_aload_n (pc' := 8) dX9_sittersIfNoneGoes_7 rfl rfl ?_
      refine gf_X9_57 (pc' := 11) dX9_sittersIfNoneGoes_8 rfl (by first | rfl | assumption) rfl ?_
      rw [hw]
      refine gj_icmp_ge (pc' := 14) (tgt := 44) dX9_sittersIfNoneGoes_11 (by decide) rfl (by omega) (fun c11 => ?_) (fun c11 => ?_)
      · refine gj_iload_n (pc' := 45) dX9_sittersIfNoneGoes_44 rfl rfl ?_
        refine gj_iret rfl dX9_sittersIfNoneGoes_45 ?_
        exact gR_i (by rw [show b = T 4 by omega])
      · refine gj_aload_n (pc' := 15) dX9_sittersIfNoneGoes_14 rfl rfl ?_
        refine gf_X9_31 (pc' := 18) dX9_sittersIfNoneGoes_15 rfl (by first | rfl | assumption) rfl ?_
        refine gj_iload (pc' := 20) dX9_sittersIfNoneGoes_18 rfl rfl ?_
        refine gj_iald (pc' := 21) (by first | rfl | assumption) rfl (by omega) (by decide) dX9_sittersIfNoneGoes_20 rfl ?_
        rw [(hB b (by omega)).1]
        refine gj_iload_n (pc' := 22) dX9_sittersIfNoneGoes_21 rfl rfl ?_
        refine gj_icmp_ne (pc' := 25) (tgt := 38) dX9_sittersIfNoneGoes_22 (by decide) rfl (by omega) (fun c22 => ?_) (fun c22 => ?_)
        · refine gj_iinc (pc' := 41) dX9_sittersIfNoneGoes_38 rfl rfl (by decide) ?_
          refine gj_goto (pc' := 5) dX9_sittersIfNoneGoes_41 (by decide) ?_
          refine gJ_wk (ih (b + 1) (by omega) (by omega)) ?_
          repeat' (first | exact True.intro | exact rfl | refine And.intro ?_ ?_ | refine vI ?_)
          all_goals (rw [es]; unfold satN; split <;> omega)
        · refine gj_aload_n (pc' := 26) dX9_sittersIfNoneGoes_25 rfl rfl ?_
          refine gj_iload (pc' := 28) dX9_sittersIfNoneGoes_26 rfl rfl ?_
          refine gr_X9_83 (pc' := 31) dX9_sittersIfNoneGoes_28 rfl (s_sitsFrom ht hA hB hT (by omega)) rfl (by first | rfl | assumption) (by decide) rfl (Nat.le_of_ble_eq_true rfl) ?_
          refine gj_iload_n (pc' := 32) dX9_sittersIfNoneGoes_31 rfl rfl ?_
          refine gj_icmp_gt (pc' := 35) (tgt := 38) dX9_sittersIfNoneGoes_32 (by decide) rfl (by omega) (fun c32 => ?_) (fun c32 => ?_)
          · refine gj_iinc (pc' := 41) dX9_sittersIfNoneGoes_38 rfl rfl (by decide) ?_
            refine gj_goto (pc' := 5) dX9_sittersIfNoneGoes_41 (by decide) ?_
            refine gJ_wk (ih (b + 1) (by omega) (by omega)) ?_
            repeat' (first | exact True.intro | exact rfl | refine And.intro ?_ ?_ | refine vI ?_)
            all_goals (rw [es]; unfold satN; split <;> omega)
          · refine gj_iinc (pc' := 38) dX9_sittersIfNoneGoes_35 rfl rfl (by decide) ?_
            refine gj_iinc (pc' := 41) dX9_sittersIfNoneGoes_38 rfl rfl (by decide) ?_
            refine gj_goto (pc' := 5) dX9_sittersIfNoneGoes_41 (by decide) ?_
            refine gJ_wk (ih (b + 1) (by omega) (by omega)) ?_
            repeat' (first | exact True.intro | exact rfl | refine And.intro ?_ ?_ | refine vI ?_)
            all_goals (rw [es]; unfold satN; split <;> omega)
  refine gSp_of (by decide +kernel) (Nat.le_of_ble_eq_true rfl) ?_
  show gJ RX9 cX9_sittersIfNoneGoes 5 (some .int) _ 0 [some (.ref t), some (.int (zI (hs : Int))), some (.int (zI (day : Int))), none, none] [] _ _
  refine gj_iconst (pc' := 1) dX9_sittersIfNoneGoes_0 rfl ?_
  refine gj_istore_n (pc' := 2) dX9_sittersIfNoneGoes_1 rfl (by decide) ?_
  refine gj_iconst (pc' := 3) dX9_sittersIfNoneGoes_2 rfl ?_
  refine gj_istore (pc' := 5) dX9_sittersIfNoneGoes_3 rfl (by decide) ?_
  exact loop (T 4 + 1) 0 (by omega) (by omega)
