/-! Amends: what only reads -/
def sPair (T S : Nat → Nat) (b c : Nat) : Bool := !sGone S b && !sGone S c && T (20 + 5 * b) == T (21 + 5 * c) && T (20 + 5 * c) == T (21 + 5 * b)
theorem s_pair {h : gH} {t b c : Nat} {T S : Nat → Nat} (hI : CI h t T S) (hb : b < T 4) (hc : c < T 4) : gSp 2 yX3_canPair cX3_canPair 4 (some .boolean) [.ref 52, .ref t, .int (zI (b : Int)), .int (zI (c : Int))] h (gR (.int (zI (bI (sPair T S b c)))) h) := s_canPair hI hb hc
theorem sPair_self {T S : Nat → Nat} (hT : TV T) {b : Nat} (hb : b < T 4) : sPair T S b b = false := by
  have := (hT.2.2.2.2.2.2.2.2.1 b hb).2.2.2.1
  unfold sPair
  simp [this]
theorem sPair_comm (T S : Nat → Nat) (b c : Nat) : sPair T S b c = sPair T S c b := by
  unfold sPair
  cases sGone S b <;> cases sGone S c <;> simp [Bool.and_comm]
def sMates (T S : Nat → Nat) (b : Nat) : Nat := bN (fun c => sPair T S b c) (T 4)
theorem s_partners {h : gH} {t a : Nat} {T S : Nat → Nat} (hI : CI h t T S) (ha : a < T 4) : gSp 3 yX0_partners cX0_partners 6 (some .int) [.ref 135, .ref t, .ref 52, .int (zI (a : Int))] h (gR (.int (zI (sMates T S a : Nat))) h) := by
  obtain ⟨ht, hP, hT, hS, hA, hB, hN⟩ := id hI
  obtain ⟨s0, -⟩ := shT ht
  have h4 : T 4 ≤ 7 := hT.2.2.2.2.1
  have hw : h.1 t 4 = (T 4 : Int) := hA.1 4 (by omega)
  refine gSp_of (by decide +kernel) (Nat.le_of_ble_eq_true rfl) ?_
  show gJ RX0 cX0_partners 6 (some .int) _ 0 [some (.ref 135), some (.ref t), some (.ref 52), some (.int (zI (a : Int))), none, none] [] _ _
  refine gj_iconst (pc' := 1) dX0_partners_0 rfl ?_
  refine gj_istore (pc' := 3) dX0_partners_1 rfl (by decide) ?_
  refine gj_iconst (pc' := 4) dX0_partners_3 rfl ?_
  refine gj_istore (pc' := 6) dX0_partners_4 rfl (by decide) ?_
  refine gJ_wk (gJ_for (L := fun b => [some (.ref 135), some (.ref t), some (.ref 52), some (.int (zI (a : Int))), some (.int (zI ((bN (fun c => sPair T S a c) b : Nat) : Int))), some (.int (zI (b : Int)))]) (T 4) (fun b hb_b ih_b => ?_) (0) (Nat.zero_le _)) ?_
  · refine gj_iload (pc' := 8) dX0_partners_6 rfl rfl ?_
    refine gj_aload_n (pc' := 9) dX0_partners_8 rfl rfl ?_
    refine gf_X0_20 (pc' := 12) dX0_partners_9 rfl (by first | rfl | assumption) rfl ?_
    rw [hw]
    refine gj_icmp_ge (pc' := 15) (tgt := 47) dX0_partners_12 (by decide) rfl (by omega) (fun c12 => ?_) (fun c12 => ?_)
    · refine gj_iload (pc' := 49) dX0_partners_47 rfl rfl ?_
      refine gj_iret rfl dX0_partners_49 ?_
      exact gR_i (by rw [show b = T 4 by omega]; rfl)
    · refine gj_iload (pc' := 17) dX0_partners_15 rfl rfl ?_
      refine gj_iload_n (pc' := 18) dX0_partners_17 rfl rfl ?_
      refine gj_icmp_eq (pc' := 21) (tgt := 41) dX0_partners_18 (by decide) rfl (by omega) (fun c18 => ?_) (fun c18 => ?_)
      · refine gj_iinc (pc' := 44) dX0_partners_41 rfl rfl (by decide) ?_
        refine gj_goto (pc' := 6) dX0_partners_44 (by decide) ?_
        refine gJ_wk (ih_b (by omega)) ?_
        repeat' (first | exact True.intro | with_reducible exact rfl | refine And.intro ?_ ?_ | refine vI ?_ | refine vL ?_)
        all_goals first | omega | (rw [bN_t c29]) | (rw [bN_f c29]) | (rw [bN_f (by rw [show b = a by omega]; exact sPair_self hT ha)])
      · refine gj_aload_n (pc' := 22) dX0_partners_21 rfl rfl ?_
        refine gj_aload_n (pc' := 23) dX0_partners_22 rfl rfl ?_
        refine gj_iload_n (pc' := 24) dX0_partners_23 rfl rfl ?_
        refine gj_iload (pc' := 26) dX0_partners_24 rfl rfl ?_
        refine gr_X0_24 (pc' := 29) dX0_partners_26 rfl (s_pair hI ha (by omega)) rfl (by first | rfl | assumption) (by decide) rfl (Nat.le_of_ble_eq_true rfl) ?_
        first | refine gj_ifB_eq (pc' := 32) (tgt := 41) dX0_partners_29 (by decide) rfl (fun c29 => ?_) (fun c29 => ?_) | refine gj_if_eq (pc' := 32) (tgt := 41) dX0_partners_29 (by decide) rfl (by omega) (fun c29 => ?_) (fun c29 => ?_)
        · refine gj_iinc (pc' := 44) dX0_partners_41 rfl rfl (by decide) ?_
          refine gj_goto (pc' := 6) dX0_partners_44 (by decide) ?_
          refine gJ_wk (ih_b (by omega)) ?_
          repeat' (first | exact True.intro | with_reducible exact rfl | refine And.intro ?_ ?_ | refine vI ?_ | refine vL ?_)
          all_goals first | omega | (rw [bN_t c29]) | (rw [bN_f c29]) | (rw [bN_f (by rw [show b = a by omega]; exact sPair_self hT ha)])
        · refine gj_iload (pc' := 34) dX0_partners_32 rfl rfl ?_
          refine gj_iconst (pc' := 35) dX0_partners_34 rfl ?_
          refine gj_iload (pc' := 37) dX0_partners_35 rfl rfl ?_
          refine gj_ishl (pc' := 38) dX0_partners_37 rfl ?_
          rw [bt_shl1 (by omega)]
          refine gj_ior (pc' := 39) dX0_partners_38 rfl ?_
          rw [bN_orI (by omega)]
          refine gj_istore (pc' := 41) dX0_partners_39 rfl (by decide) ?_
          refine gj_iinc (pc' := 44) dX0_partners_41 rfl rfl (by decide) ?_
          refine gj_goto (pc' := 6) dX0_partners_44 (by decide) ?_
          refine gJ_wk (ih_b (by omega)) ?_
          repeat' (first | exact True.intro | with_reducible exact rfl | refine And.intro ?_ ?_ | refine vI ?_ | refine vL ?_)
          all_goals first | omega | (rw [bN_t c29]) | (rw [bN_f c29]) | (rw [bN_f (by rw [show b = a by omega]; exact sPair_self hT ha)])
  · repeat' (first | exact True.intro | with_reducible exact rfl | refine And.intro ?_ ?_ | refine vI ?_ | refine vL ?_)
    all_goals first | rfl | omega
def lowB (m : Nat) : Nat := fN (fun k r => if r = 8 ∧ m.testBit k = true then k else r) 8 8
theorem lowB_key : ∀ m, m < 128 → m ≠ 0 → (zI (m : Nat) &&& zI (-(m : Nat))).toInt = ((2 ^ lowB m : Nat) : Int) ∧ lowB m < 7 ∧ m.testBit (lowB m) = true ∧ ∀ k, k < lowB m → m.testBit k = false := by decide +kernel
theorem pcN_low : ∀ k, k < 7 → pcN (2 ^ k - 1) = k ∧ 2 ^ k - 1 < 256 ∧ 1 ≤ 2 ^ k := by decide +kernel
theorem s_firstOf {h : gH} {m : Nat} (hm : m < 128) (h0 : m ≠ 0) : gSp 2 yX0_firstOf cX0_firstOf 1 (some .int) [.int (zI (m : Int))] h (gR (.int (zI (lowB m : Nat))) h) := by
  obtain ⟨k1, k2, -⟩ := lowB_key m hm h0
  obtain ⟨k3, k4, k5⟩ := pcN_low (lowB m) k2
  refine gSp_of (by decide +kernel) (Nat.le_of_ble_eq_true rfl) ?_
  show gJ RX0 cX0_firstOf 1 (some .int) _ 0 [some (.int (zI (m : Int)))] [] _ _
  refine gj_iload_n (pc' := 1) dX0_firstOf_0 rfl rfl ?_
  refine gj_iload_n (pc' := 2) dX0_firstOf_1 rfl rfl ?_
  refine gj_ineg (pc' := 3) dX0_firstOf_2 rfl ?_
  refine gj_iand (pc' := 4) dX0_firstOf_3 rfl ?_
  rw [k1]
  refine gj_iconst (pc' := 5) dX0_firstOf_4 rfl ?_
  refine gj_isub (pc' := 6) dX0_firstOf_5 rfl ?_
  rw [show (((2 ^ lowB m : Nat) : Int) - 1) = ((2 ^ lowB m - 1 : Nat) : Int) by omega]
  refine gr_X0_62 (pc' := 9) dX0_firstOf_6 rfl (s_bitCount k4) rfl (by decide) rfl (Nat.le_of_ble_eq_true rfl) ?_
  refine gj_iret rfl dX0_firstOf_9 ?_
  exact gR_i (by rw [k3])
def sSum (T S : Nat → Nat) (m : Nat) : Nat := sN (fun b => if m.testBit b then tLe T S b else 0) (T 4)
theorem sSum_le {T S : Nat → Nat} (hT : TV T) (m : Nat) : sSum T S m ≤ 840 := by
  have h4 : T 4 ≤ 7 := hT.2.2.2.2.1
  have := sN_le (f := fun b => if m.testBit b then tLe T S b else 0) (c := 120) (n := T 4) (fun i hi => by
    show (if _ then _ else _) ≤ 120
    split
    · exact tLe_le hT hi
    · omega)
  unfold sSum
  omega
theorem s_sumOf {h : gH} {t m : Nat} {T S : Nat → Nat} (hI : CI h t T S) (hm : m < 128) : gSp 2 yX0_sumOf cX0_sumOf 5 (some .int) [.ref t, .ref 52, .int (zI (m : Int))] h (gR (.int (zI (sSum T S m : Nat))) h) := by
  obtain ⟨ht, hP, hT, hS, hA, hB, hN⟩ := id hI
  obtain ⟨s0, -⟩ := shT ht
  have h4 : T 4 ≤ 7 := hT.2.2.2.2.1
  have hw : h.1 t 4 = (T 4 : Int) := hA.1 4 (by omega)
  refine gSp_of (by decide +kernel) (Nat.le_of_ble_eq_true rfl) ?_
  show gJ RX0 cX0_sumOf 5 (some .int) _ 0 [some (.ref t), some (.ref 52), some (.int (zI (m : Int))), none, none] [] _ _
  refine gj_iconst (pc' := 1) dX0_sumOf_0 rfl ?_
  refine gj_istore_n (pc' := 2) dX0_sumOf_1 rfl (by decide) ?_
  refine gj_iconst (pc' := 3) dX0_sumOf_2 rfl ?_
  refine gj_istore (pc' := 5) dX0_sumOf_3 rfl (by decide) ?_
  refine gJ_wk (gJ_for (L := fun b => [some (.ref t), some (.ref 52), some (.int (zI (m : Int))), some (.int (zI (sN (fun b => if m.testBit b then tLe T S b else 0) b : Nat))), some (.int (zI (b : Int)))]) (T 4) (fun b hb_b ih_b => ?_) (0) (Nat.zero_le _)) ?_
  · have es : sN (fun b => if m.testBit b then tLe T S b else 0) (b + 1) = sN (fun b => if m.testBit b then tLe T S b else 0) b + (if m.testBit b then tLe T S b else 0) := rfl
    refine gj_iload (pc' := 7) dX0_sumOf_5 rfl rfl ?_
    refine gj_aload_n (pc' := 8) dX0_sumOf_7 rfl rfl ?_
    refine gf_X0_20 (pc' := 11) dX0_sumOf_8 rfl (by first | rfl | assumption) rfl ?_
    rw [hw]
    refine gj_icmp_ge (pc' := 14) (tgt := 39) dX0_sumOf_11 (by decide) rfl (by omega) (fun c11 => ?_) (fun c11 => ?_)
    · refine gj_iload_n (pc' := 40) dX0_sumOf_39 rfl rfl ?_
      refine gj_iret rfl dX0_sumOf_40 ?_
      exact gR_i (by rw [show b = T 4 by omega]; rfl)
    · refine gj_iload_n (pc' := 15) dX0_sumOf_14 rfl rfl ?_
      refine gj_iload (pc' := 17) dX0_sumOf_15 rfl rfl ?_
      refine gj_ishr (pc' := 18) dX0_sumOf_17 rfl ?_
      refine gj_iconst (pc' := 19) dX0_sumOf_18 rfl ?_
      refine gj_iand (pc' := 20) dX0_sumOf_19 rfl ?_
      rw [bt_bit (by omega) (by omega)]
      first | refine gj_ifB_eq (pc' := 23) (tgt := 33) dX0_sumOf_20 (by decide) rfl (fun c20 => ?_) (fun c20 => ?_) | refine gj_if_eq (pc' := 23) (tgt := 33) dX0_sumOf_20 (by decide) rfl (by omega) (fun c20 => ?_) (fun c20 => ?_)
      · refine gj_iinc (pc' := 36) dX0_sumOf_33 rfl rfl (by decide) ?_
        refine gj_goto (pc' := 5) dX0_sumOf_36 (by decide) ?_
        refine gJ_wk (ih_b (by omega)) ?_
        repeat' (first | exact True.intro | with_reducible exact rfl | refine And.intro ?_ ?_ | refine vI ?_ | refine vL ?_)
        all_goals first | omega | (rw [es, if_pos c20]; omega) | (rw [es, if_neg (by rw [c20]; decide)]; omega)
      · refine gj_iload_n (pc' := 24) dX0_sumOf_23 rfl rfl ?_
        refine gj_aload_n (pc' := 25) dX0_sumOf_24 rfl rfl ?_
        refine gj_aload_n (pc' := 26) dX0_sumOf_25 rfl rfl ?_
        refine gj_iload (pc' := 28) dX0_sumOf_26 rfl rfl ?_
        refine gr_X0_46 (pc' := 31) dX0_sumOf_28 rfl (s_lacking hI (by omega)) rfl (by first | rfl | assumption) (by decide) rfl (Nat.le_of_ble_eq_true rfl) ?_
        refine gj_iadd (pc' := 32) dX0_sumOf_31 rfl ?_
        refine gj_istore_n (pc' := 33) dX0_sumOf_32 rfl (by decide) ?_
        refine gj_iinc (pc' := 36) dX0_sumOf_33 rfl rfl (by decide) ?_
        refine gj_goto (pc' := 5) dX0_sumOf_36 (by decide) ?_
        refine gJ_wk (ih_b (by omega)) ?_
        repeat' (first | exact True.intro | with_reducible exact rfl | refine And.intro ?_ ?_ | refine vI ?_ | refine vL ?_)
        all_goals first | omega | (rw [es, if_pos c20]; omega) | (rw [es, if_neg (by rw [c20]; decide)]; omega)
  · repeat' (first | exact True.intro | with_reducible exact rfl | refine And.intro ?_ ?_ | refine vI ?_ | refine vL ?_)
    all_goals first | rfl | omega
def lStep (T S : Nat → Nat) (am co s x : Nat) : Nat := if nWo s am = 0 ∧ sSum T S s ≤ co ∧ (pcN x < pcN s ∨ (pcN s = pcN x ∧ sSum T S s < sSum T S x)) then s else x
def lBest (T S : Nat → Nat) (am co n : Nat) : Nat := fN (fun k x => lStep T S am co (k + 1) x) 0 n
theorem lBest_le (T S : Nat → Nat) (am co : Nat) : ∀ n, lBest T S am co n ≤ n
  | 0 => Nat.le_refl 0
  | n + 1 => by
    have ih := lBest_le T S am co n
    show lStep T S am co (n + 1) (lBest T S am co n) ≤ n + 1
    unfold lStep
    split <;> omega
theorem sSum_0 (T S : Nat → Nat) : sSum T S 0 = 0 := by
  unfold sSum
  rw [sN_congr (g := fun _ => 0) (fun i _ => by simp)]
  exact sN_zero _
theorem s_largest {h : gH} {t am co : Nat} {T S : Nat → Nat} (hI : CI h t T S) (ha : am < 128) (hc : co ≤ 999) : gSp 3 yX0_largestSet cX0_largestSet 10 (some .int) [.ref 135, .ref t, .ref 52, .int (zI (am : Int)), .int (zI (co : Int))] h (gR (.int (zI (lBest T S am co am : Nat))) h) := by
  obtain ⟨ht, hP, hT, hS, hA, hB, hN⟩ := id hI
  refine gSp_of (by decide +kernel) (Nat.le_of_ble_eq_true rfl) ?_
  show gJ RX0 cX0_largestSet 10 (some .int) _ 0 [some (.ref 135), some (.ref t), some (.ref 52), some (.int (zI (am : Int))), some (.int (zI (co : Int))), none, none, none, none, none] [] _ _
  refine gj_iconst (pc' := 1) dX0_largestSet_0 rfl ?_
  refine gj_istore (pc' := 3) dX0_largestSet_1 rfl (by decide) ?_
  refine gj_iconst (pc' := 4) dX0_largestSet_3 rfl ?_
  refine gj_istore (pc' := 6) dX0_largestSet_4 rfl (by decide) ?_
  refine gj_iconst (pc' := 7) dX0_largestSet_6 rfl ?_
  refine gj_istore (pc' := 9) dX0_largestSet_7 rfl (by decide) ?_
  refine gJ_wk (gJ_fI2 (L := fun k x y => [some (.ref 135), some (.ref t), some (.ref 52), some (.int (zI (am : Int))), some (.int (zI (co : Int))), some (.int (zI x)), some (.int (zI y)), some (.int (zI ((k : Int) + 1))), none, none]) (I := fun k x y => x = ((lBest T S am co k : Nat) : Int) ∧ y = ((sSum T S (lBest T S am co k) : Nat) : Int)) (am) (fun k x y hb_k iv_k ih_k => ?step_1) (0) (Nat.zero_le _) ?x0_1 ?y0_1 ?iv0_1) ?ll0_1
  case ll0_1 =>
    repeat' (first | exact True.intro | with_reducible exact rfl | refine And.intro ?_ ?_ | refine vI ?_ | refine vL ?_)
    all_goals first | rfl | omega
  case iv0_1 =>
    exact ⟨rfl, by show (0 : Int) = ((sSum T S 0 : Nat) : Int); rw [sSum_0]; rfl⟩
  have es : lBest T S am co (k + 1) = lStep T S am co (k + 1) (lBest T S am co k) := rfl
  have lx := lBest_le T S am co k
  obtain ⟨rfl, rfl⟩ := iv_k
  have ec : am = k → lBest T S am co am = lBest T S am co k := fun q => congrArg (lBest T S am co) q
  generalize lBest T S am co k = x at es lx ec ⊢
  have b1 := sSum_le (S := S) hT (k + 1)
  have b2 := sSum_le (S := S) hT x
  have b3 := pcN_le (k + 1)
  have b4 := pcN_le x
  have b5 := nWo_le (k + 1) am
  rw [show ((k : Int) + 1) = ((k + 1 : Nat) : Int) by omega]
  refine gj_iload (pc' := 11) dX0_largestSet_9 rfl rfl ?_
  refine gj_iload_n (pc' := 12) dX0_largestSet_11 rfl rfl ?_
  refine gj_icmp_gt (pc' := 15) (tgt := 87) dX0_largestSet_12 (by decide) rfl (by omega) (fun c12 => ?_) (fun c12 => ?_)
  · refine gj_iload (pc' := 89) dX0_largestSet_87 rfl rfl ?_
    refine gj_iret rfl dX0_largestSet_89 ?_
    exact gR_i (by rw [ec (by omega)])
  · refine gj_iload (pc' := 17) dX0_largestSet_15 rfl rfl ?_
    refine gj_iload_n (pc' := 18) dX0_largestSet_17 rfl rfl ?_
    refine gj_iconst (pc' := 19) dX0_largestSet_18 rfl ?_
    refine gj_ixor (pc' := 20) dX0_largestSet_19 rfl ?_
    refine gj_iand (pc' := 21) dX0_largestSet_20 rfl ?_
    rw [bt_wo (by omega) (by omega)]
    refine gj_if_eq (pc' := 24) (tgt := 27) dX0_largestSet_21 (by decide) rfl (by omega) (fun c21 => ?_) (fun c21 => ?_)
    · refine gj_aload_n (pc' := 28) dX0_largestSet_27 rfl rfl ?_
      refine gj_aload_n (pc' := 29) dX0_largestSet_28 rfl rfl ?_
      refine gj_iload (pc' := 31) dX0_largestSet_29 rfl rfl ?_
      refine gr_X0_67 (pc' := 34) dX0_largestSet_31 rfl (s_sumOf hI (by omega)) rfl (by decide) rfl (Nat.le_of_ble_eq_true rfl) ?_
      refine gj_istore (pc' := 36) dX0_largestSet_34 rfl (by decide) ?_
      refine gj_iload (pc' := 38) dX0_largestSet_36 rfl rfl ?_
      refine gr_X0_62 (pc' := 41) dX0_largestSet_38 rfl (s_bitCount (m := k + 1) (by omega)) rfl (by decide) rfl (Nat.le_of_ble_eq_true rfl) ?_
      refine gj_iload (pc' := 43) dX0_largestSet_41 rfl rfl ?_
      refine gr_X0_62 (pc' := 46) dX0_largestSet_43 rfl (s_bitCount (m := x) (by omega)) rfl (by decide) rfl (Nat.le_of_ble_eq_true rfl) ?_
      refine gj_isub (pc' := 47) dX0_largestSet_46 rfl ?_
      refine gj_istore (pc' := 49) dX0_largestSet_47 rfl (by decide) ?_
      refine gj_iload (pc' := 51) dX0_largestSet_49 rfl rfl ?_
      refine gj_iload (pc' := 53) dX0_largestSet_51 rfl rfl ?_
      refine gj_icmp_gt (pc' := 56) (tgt := 81) dX0_largestSet_53 (by decide) rfl (by omega) (fun c53 => ?_) (fun c53 => ?_)
      · refine gj_iinc (pc' := 84) dX0_largestSet_81 rfl rfl (by decide) ?_
        refine gj_goto (pc' := 9) dX0_largestSet_84 (by decide) ?_
        refine gJ_wk (ih_k ?x_2 ?y_2 (by omega) ?iv_2) ?ll_2
        case ll_2 =>
          repeat' (first | exact True.intro | with_reducible exact rfl | refine And.intro ?_ ?_ | refine vI ?_ | refine vL ?_)
          all_goals omega
        rw [es]
        unfold lStep
        first | rw [if_pos (by omega)]; exact ⟨rfl, rfl⟩ | rw [if_neg (by omega)]; exact ⟨rfl, rfl⟩
      · refine gj_iload (pc' := 58) dX0_largestSet_56 rfl rfl ?_
        refine gj_if_gt (pc' := 61) (tgt := 73) dX0_largestSet_58 (by decide) rfl (by omega) (fun c58 => ?_) (fun c58 => ?_)
        · refine gj_iload (pc' := 75) dX0_largestSet_73 rfl rfl ?_
          refine gj_istore (pc' := 77) dX0_largestSet_75 rfl (by decide) ?_
          refine gj_iload (pc' := 79) dX0_largestSet_77 rfl rfl ?_
          refine gj_istore (pc' := 81) dX0_largestSet_79 rfl (by decide) ?_
          refine gj_iinc (pc' := 84) dX0_largestSet_81 rfl rfl (by decide) ?_
          refine gj_goto (pc' := 9) dX0_largestSet_84 (by decide) ?_
          refine gJ_wk (ih_k ?x_3 ?y_3 (by omega) ?iv_3) ?ll_3
          case ll_3 =>
            repeat' (first | exact True.intro | with_reducible exact rfl | refine And.intro ?_ ?_ | refine vI ?_ | refine vL ?_)
            all_goals omega
          rw [es]
          unfold lStep
          first | rw [if_pos (by omega)]; exact ⟨rfl, rfl⟩ | rw [if_neg (by omega)]; exact ⟨rfl, rfl⟩
        · refine gj_iload (pc' := 63) dX0_largestSet_61 rfl rfl ?_
          refine gj_if_ne (pc' := 66) (tgt := 81) dX0_largestSet_63 (by decide) rfl (by omega) (fun c63 => ?_) (fun c63 => ?_)
          · refine gj_iinc (pc' := 84) dX0_largestSet_81 rfl rfl (by decide) ?_
            refine gj_goto (pc' := 9) dX0_largestSet_84 (by decide) ?_
            refine gJ_wk (ih_k ?x_4 ?y_4 (by omega) ?iv_4) ?ll_4
            case ll_4 =>
              repeat' (first | exact True.intro | with_reducible exact rfl | refine And.intro ?_ ?_ | refine vI ?_ | refine vL ?_)
              all_goals omega
            rw [es]
            unfold lStep
            first | rw [if_pos (by omega)]; exact ⟨rfl, rfl⟩ | rw [if_neg (by omega)]; exact ⟨rfl, rfl⟩
          · refine gj_iload (pc' := 68) dX0_largestSet_66 rfl rfl ?_
            refine gj_iload (pc' := 70) dX0_largestSet_68 rfl rfl ?_
            refine gj_icmp_ge (pc' := 73) (tgt := 81) dX0_largestSet_70 (by decide) rfl (by omega) (fun c70 => ?_) (fun c70 => ?_)
            · refine gj_iinc (pc' := 84) dX0_largestSet_81 rfl rfl (by decide) ?_
              refine gj_goto (pc' := 9) dX0_largestSet_84 (by decide) ?_
              refine gJ_wk (ih_k ?x_5 ?y_5 (by omega) ?iv_5) ?ll_5
              case ll_5 =>
                repeat' (first | exact True.intro | with_reducible exact rfl | refine And.intro ?_ ?_ | refine vI ?_ | refine vL ?_)
                all_goals omega
              rw [es]
              unfold lStep
              first | rw [if_pos (by omega)]; exact ⟨rfl, rfl⟩ | rw [if_neg (by omega)]; exact ⟨rfl, rfl⟩
            · refine gj_iload (pc' := 75) dX0_largestSet_73 rfl rfl ?_
              refine gj_istore (pc' := 77) dX0_largestSet_75 rfl (by decide) ?_
              refine gj_iload (pc' := 79) dX0_largestSet_77 rfl rfl ?_
              refine gj_istore (pc' := 81) dX0_largestSet_79 rfl (by decide) ?_
              refine gj_iinc (pc' := 84) dX0_largestSet_81 rfl rfl (by decide) ?_
              refine gj_goto (pc' := 9) dX0_largestSet_84 (by decide) ?_
              refine gJ_wk (ih_k ?x_6 ?y_6 (by omega) ?iv_6) ?ll_6
              case ll_6 =>
                repeat' (first | exact True.intro | with_reducible exact rfl | refine And.intro ?_ ?_ | refine vI ?_ | refine vL ?_)
                all_goals omega
              rw [es]
              unfold lStep
              first | rw [if_pos (by omega)]; exact ⟨rfl, rfl⟩ | rw [if_neg (by omega)]; exact ⟨rfl, rfl⟩
    · refine gj_goto (pc' := 81) dX0_largestSet_24 (by decide) ?_
      refine gj_iinc (pc' := 84) dX0_largestSet_81 rfl rfl (by decide) ?_
      refine gj_goto (pc' := 9) dX0_largestSet_84 (by decide) ?_
      refine gJ_wk (ih_k ?x_7 ?y_7 (by omega) ?iv_7) ?ll_7
      case ll_7 =>
        repeat' (first | exact True.intro | with_reducible exact rfl | refine And.intro ?_ ?_ | refine vI ?_ | refine vL ?_)
        all_goals omega
      rw [es]
      unfold lStep
      first | rw [if_pos (by omega)]; exact ⟨rfl, rfl⟩ | rw [if_neg (by omega)]; exact ⟨rfl, rfl⟩
def cStep (T S : Nat → Nat) (am many s : Nat) (r : Int) : Int := if nWo s am = 0 ∧ pcN s = many ∧ (r = -2 ∨ (sSum T S s : Int) < r) then (sSum T S s : Int) else r
def cBest (T S : Nat → Nat) (am many n : Nat) : Int := fN (fun k r => cStep T S am many k r) (-2) n
theorem cBest_in {T S : Nat → Nat} (hT : TV T) (am many : Nat) : ∀ n, -2 ≤ cBest T S am many n ∧ cBest T S am many n ≤ 840 ∧ cBest T S am many n ≠ -1
  | 0 => ⟨by show (-2 : Int) ≤ -2; omega, by show (-2 : Int) ≤ 840; omega, by show (-2 : Int) ≠ -1; omega⟩
  | n + 1 => by
    have ih := cBest_in (S := S) hT am many n
    have b1 := sSum_le (S := S) hT n
    show -2 ≤ cStep T S am many n (cBest T S am many n) ∧ cStep T S am many n (cBest T S am many n) ≤ 840 ∧ cStep T S am many n (cBest T S am many n) ≠ -1
    unfold cStep
    split <;> omega
theorem nPr_lt {T S : Nat → Nat} (hT : TV T) : nWo (2 ^ T 4 - 1) (S 19) < 128 := by
  have h4 : T 4 ≤ 7 := hT.2.2.2.2.1
  have hp : 2 ^ T 4 ≤ 128 := Nat.pow_le_pow_right (n := 2) (by omega) h4
  have hp1 : 1 ≤ 2 ^ T 4 := Nat.one_le_two_pow
  have := nWo_le (2 ^ T 4 - 1) (S 19)
  omega
theorem s_cheapestSet {h : gH} {t many : Nat} {T S : Nat → Nat} (hI : CI h t T S) (hm : many ≤ 7) : gSp 3 yX0_cheapestSet cX0_cheapestSet 8 (some .int) [.ref 135, .ref t, .ref 52, .int (zI (many : Int))] h (gR (.int (zI (cBest T S (nWo (2 ^ T 4 - 1) (S 19)) many (nWo (2 ^ T 4 - 1) (S 19) + 1)))) h) := by
  obtain ⟨ht, hP, hT, hS, hA, hB, hN⟩ := id hI
  obtain ⟨s0, -⟩ := shT ht
  have hl := nPr_lt (S := S) hT
  refine gSp_of (by decide +kernel) (Nat.le_of_ble_eq_true rfl) ?_
  show gJ RX0 cX0_cheapestSet 8 (some .int) _ 0 [some (.ref 135), some (.ref t), some (.ref 52), some (.int (zI (many : Int))), none, none, none, none] [] _ _
  refine gj_aload_n (pc' := 1) dX0_cheapestSet_0 rfl rfl ?_
  refine gj_aload_n (pc' := 2) dX0_cheapestSet_1 rfl rfl ?_
  refine gr_X0_34 (pc' := 5) dX0_cheapestSet_2 rfl (s_present hI) rfl (by first | rfl | assumption) (by decide) rfl (Nat.le_of_ble_eq_true rfl) ?_
  refine gj_istore (pc' := 7) dX0_cheapestSet_5 rfl (by decide) ?_
  generalize nWo (2 ^ T 4 - 1) (S 19) = am at hl ⊢
  refine gj_bipush (pc' := 9) dX0_cheapestSet_7 rfl (by decide) ?_
  refine gj_istore (pc' := 11) dX0_cheapestSet_9 rfl (by decide) ?_
  refine gj_iconst (pc' := 12) dX0_cheapestSet_11 rfl ?_
  refine gj_istore (pc' := 14) dX0_cheapestSet_12 rfl (by decide) ?_
  refine gJ_wk (gJ_fI1 (L := fun k x => [some (.ref 135), some (.ref t), some (.ref 52), some (.int (zI (many : Int))), some (.int (zI (am : Int))), some (.int (zI x)), some (.int (zI (k : Int))), none]) (I := fun k x => x = cBest T S am many k) (am + 1) (fun k x hb_k iv_k ih_k => ?step_1) (0) (Nat.zero_le _) ?x0_1 ?iv0_1) ?ll0_1
  case ll0_1 =>
    repeat' (first | exact True.intro | with_reducible exact rfl | refine And.intro ?_ ?_ | refine vI ?_ | refine vL ?_)
    all_goals first | rfl | omega
  case iv0_1 =>
    rfl
  have es : cBest T S am many (k + 1) = cStep T S am many k (cBest T S am many k) := rfl
  have lx := cBest_in (S := S) hT am many k
  subst iv_k
  have ec : am + 1 = k → cBest T S am many (am + 1) = cBest T S am many k := fun q => congrArg (cBest T S am many) q
  generalize cBest T S am many k = x at es lx ec ⊢
  have b1 := sSum_le (S := S) hT k
  have b3 := pcN_le k
  have b5 := nWo_le k am
  refine gj_iload (pc' := 16) dX0_cheapestSet_14 rfl rfl ?_
  refine gj_iload (pc' := 18) dX0_cheapestSet_16 rfl rfl ?_
  refine gj_icmp_gt (pc' := 21) (tgt := 76) dX0_cheapestSet_18 (by decide) rfl (by omega) (fun c18 => ?_) (fun c18 => ?_)
  · refine gj_iload (pc' := 78) dX0_cheapestSet_76 rfl rfl ?_
    refine gj_iret rfl dX0_cheapestSet_78 ?_
    exact gR_i (by rw [ec (by omega)])
  · refine gj_iload (pc' := 23) dX0_cheapestSet_21 rfl rfl ?_
    refine gj_iload (pc' := 25) dX0_cheapestSet_23 rfl rfl ?_
    refine gj_iconst (pc' := 26) dX0_cheapestSet_25 rfl ?_
    refine gj_ixor (pc' := 27) dX0_cheapestSet_26 rfl ?_
    refine gj_iand (pc' := 28) dX0_cheapestSet_27 rfl ?_
    rw [bt_wo (by omega) (by omega)]
    refine gj_if_ne (pc' := 31) (tgt := 70) dX0_cheapestSet_28 (by decide) rfl (by omega) (fun c28 => ?_) (fun c28 => ?_)
    · refine gj_iinc (pc' := 73) dX0_cheapestSet_70 rfl rfl (by decide) ?_
      refine gj_goto (pc' := 14) dX0_cheapestSet_73 (by decide) ?_
      refine gJ_wk (ih_k ?x_2 (by omega) ?iv_2) ?ll_2
      case ll_2 =>
        repeat' (first | exact True.intro | with_reducible exact rfl | refine And.intro ?_ ?_ | refine vI ?_ | refine vL ?_)
        all_goals omega
      rw [es]
      unfold cStep
      split <;> omega
    · refine gj_iload (pc' := 33) dX0_cheapestSet_31 rfl rfl ?_
      refine gr_X0_62 (pc' := 36) dX0_cheapestSet_33 rfl (s_bitCount (by omega)) rfl (by decide) rfl (Nat.le_of_ble_eq_true rfl) ?_
      refine gj_iload_n (pc' := 37) dX0_cheapestSet_36 rfl rfl ?_
      refine gj_icmp_ne (pc' := 40) (tgt := 70) dX0_cheapestSet_37 (by decide) rfl (by omega) (fun c37 => ?_) (fun c37 => ?_)
      · refine gj_iinc (pc' := 73) dX0_cheapestSet_70 rfl rfl (by decide) ?_
        refine gj_goto (pc' := 14) dX0_cheapestSet_73 (by decide) ?_
        refine gJ_wk (ih_k ?x_3 (by omega) ?iv_3) ?ll_3
        case ll_3 =>
          repeat' (first | exact True.intro | with_reducible exact rfl | refine And.intro ?_ ?_ | refine vI ?_ | refine vL ?_)
          all_goals omega
        rw [es]
        unfold cStep
        split <;> omega
      · refine gj_aload_n (pc' := 41) dX0_cheapestSet_40 rfl rfl ?_
        refine gj_aload_n (pc' := 42) dX0_cheapestSet_41 rfl rfl ?_
        refine gj_iload (pc' := 44) dX0_cheapestSet_42 rfl rfl ?_
        refine gr_X0_67 (pc' := 47) dX0_cheapestSet_44 rfl (s_sumOf hI (by omega)) rfl (by decide) rfl (Nat.le_of_ble_eq_true rfl) ?_
        refine gj_istore (pc' := 49) dX0_cheapestSet_47 rfl (by decide) ?_
        refine gj_iload (pc' := 51) dX0_cheapestSet_49 rfl rfl ?_
        refine gj_bipush (pc' := 53) dX0_cheapestSet_51 rfl (by decide) ?_
        refine gj_icmp_ne (pc' := 56) (tgt := 61) dX0_cheapestSet_53 (by decide) rfl (by omega) (fun c53 => ?_) (fun c53 => ?_)
        · refine gj_iload (pc' := 63) dX0_cheapestSet_61 rfl rfl ?_
          refine gj_iload (pc' := 65) dX0_cheapestSet_63 rfl rfl ?_
          refine gj_mmin (pc' := 68) dX0_cheapestSet_65 rfl wm_X0_71 (by decide) (by omega) (by omega) (Nat.le_of_ble_eq_true rfl) ?_
          refine gj_istore (pc' := 70) dX0_cheapestSet_68 rfl (by decide) ?_
          refine gj_iinc (pc' := 73) dX0_cheapestSet_70 rfl rfl (by decide) ?_
          refine gj_goto (pc' := 14) dX0_cheapestSet_73 (by decide) ?_
          refine gJ_wk (ih_k ?x_4 (by omega) ?iv_4) ?ll_4
          case ll_4 =>
            repeat' (first | exact True.intro | with_reducible exact rfl | refine And.intro ?_ ?_ | refine vI ?_ | refine vL ?_)
            all_goals omega
          rw [es]
          unfold cStep
          split <;> omega
        · refine gj_iload (pc' := 58) dX0_cheapestSet_56 rfl rfl ?_
          refine gj_goto (pc' := 68) dX0_cheapestSet_58 (by decide) ?_
          refine gj_istore (pc' := 70) dX0_cheapestSet_68 rfl (by decide) ?_
          refine gj_iinc (pc' := 73) dX0_cheapestSet_70 rfl rfl (by decide) ?_
          refine gj_goto (pc' := 14) dX0_cheapestSet_73 (by decide) ?_
          refine gJ_wk (ih_k ?x_5 (by omega) ?iv_5) ?ll_5
          case ll_5 =>
            repeat' (first | exact True.intro | with_reducible exact rfl | refine And.intro ?_ ?_ | refine vI ?_ | refine vL ?_)
            all_goals omega
          rw [es]
          unfold cStep
          split <;> omega
def sSp (T S : Nat → Nat) (b c : Nat) : Nat := tLe T S b + tLe T S c - nD (tLe T S b) (tLe T S c)
def bIn (T S : Nat → Nat) (b : Nat) (p : Int × Int) (n : Nat) : Int × Int := fN (fun c p => if b < c ∧ sPair T S b c = true ∧ p.2 < (sSp T S b c : Int) then (10 * (b : Int) + (c : Int), (sSp T S b c : Int)) else p) p n
def bOut (T S : Nat → Nat) (n : Nat) : Int × Int := fN (fun b p => bIn T S b p (T 4)) (-2, -1) n
theorem bIn_s (T S : Nat → Nat) (b : Nat) (p : Int × Int) (c : Nat) : bIn T S b p (c + 1) = if b < c ∧ sPair T S b c = true ∧ (bIn T S b p c).2 < (sSp T S b c : Int) then (10 * (b : Int) + (c : Int), (sSp T S b c : Int)) else bIn T S b p c := rfl
theorem bIn_lo (T S : Nat → Nat) (b : Nat) (p : Int × Int) : ∀ c, c ≤ b + 1 → bIn T S b p c = p
  | 0, _ => rfl
  | c + 1, h => by
    rw [bIn_s, if_neg (by omega)]
    exact bIn_lo T S b p c (by omega)
def bOk (p : Int × Int) : Prop := (p.1 = -2 ∧ p.2 = -1) ∨ (0 ≤ p.1 ∧ 0 ≤ p.2 ∧ p.2 ≤ 240 ∧ p.1 ≤ 100)
theorem nD_le2 (a b : Nat) : nD a b ≤ a + b := by unfold nD; split <;> omega
theorem sSp_le {T S : Nat → Nat} (hT : TV T) {b c : Nat} (hb : b < T 4) (hc : c < T 4) : sSp T S b c ≤ 240 := by
  have := tLe_le (S := S) hT hb
  have := tLe_le (S := S) hT hc
  unfold sSp
  omega
theorem bIn_ok {T S : Nat → Nat} (hT : TV T) {b : Nat} (hb : b < T 4) {p : Int × Int} (hp : bOk p) {n : Nat} (hn : n ≤ T 4) : bOk (bIn T S b p n) := by
  refine fN_inv (fun q => bOk q) hp n (fun c x hc hx => ?_)
  show bOk (if _ then _ else x)
  split
  · have := sSp_le (S := S) hT hb (c := c) (by omega)
    have h4 : T 4 ≤ 7 := hT.2.2.2.2.1
    exact Or.inr ⟨by show (0 : Int) ≤ 10 * (b : Int) + (c : Int); omega, by show (0 : Int) ≤ (sSp T S b c : Int); omega, by show (sSp T S b c : Int) ≤ 240; omega, by show 10 * (b : Int) + (c : Int) ≤ 100; omega⟩
  · exact hx
theorem bOut_ok {T S : Nat → Nat} (hT : TV T) {n : Nat} (hn : n ≤ T 4) : bOk (bOut T S n) :=
  fN_inv (fun q => bOk q) (Or.inl ⟨rfl, rfl⟩) n (fun b x hb hx => bIn_ok hT (by omega) hx (Nat.le_refl _))
theorem s_sparing {h : gH} {t : Nat} {T S : Nat → Nat} (hI : CI h t T S) : gSp 3 yX0_mostSparing cX0_mostSparing 8 (some .int) [.ref 135, .ref t, .ref 52] h (gR (.int (zI ((bOut T S (T 4)).1))) h) := by
  obtain ⟨ht, hP, hT, hS, hA, hB, hN⟩ := id hI
  obtain ⟨s0, -⟩ := shT ht
  have h4 : T 4 ≤ 7 := hT.2.2.2.2.1
  have hw : h.1 t 4 = (T 4 : Int) := hA.1 4 (by omega)
  refine gSp_of (by decide +kernel) (Nat.le_of_ble_eq_true rfl) ?_
  show gJ RX0 cX0_mostSparing 8 (some .int) _ 0 [some (.ref 135), some (.ref t), some (.ref 52), none, none, none, none, none] [] _ _
  refine gj_bipush (pc' := 2) dX0_mostSparing_0 rfl (by decide) ?_
  refine gj_istore_n (pc' := 3) dX0_mostSparing_2 rfl (by decide) ?_
  refine gj_iconst (pc' := 4) dX0_mostSparing_3 rfl ?_
  refine gj_istore (pc' := 6) dX0_mostSparing_4 rfl (by decide) ?_
  refine gj_iconst (pc' := 7) dX0_mostSparing_6 rfl ?_
  refine gj_istore (pc' := 9) dX0_mostSparing_7 rfl (by decide) ?_
  refine gJ_wk (gJ_fI2 (L := fun b x y => [some (.ref 135), some (.ref t), some (.ref 52), some (.int (zI x)), some (.int (zI y)), some (.int (zI (b : Int))), none, none]) (I := fun b x y => x = (bOut T S b).1 ∧ y = (if (bOut T S b).2 = -1 then 0 else (bOut T S b).2)) (T 4) (fun b x y hb_b iv_b ih_b => ?step_1) (0) (Nat.zero_le _) ?x0_1 ?y0_1 ?iv0_1) ?ll0_1
  case ll0_1 =>
    repeat' (first | exact True.intro | with_reducible exact rfl | refine And.intro ?_ ?_ | refine vI ?_ | refine vL ?_)
    all_goals first | rfl | omega
  case iv0_1 =>
    exact ⟨rfl, rfl⟩
  have eo : bOut T S (b + 1) = bIn T S b (bOut T S b) (T 4) := rfl
  have ho := bOut_ok (S := S) hT hb_b
  refine gj_iload (pc' := 11) dX0_mostSparing_9 rfl rfl ?_
  refine gj_aload_n (pc' := 12) dX0_mostSparing_11 rfl rfl ?_
  refine gf_X0_20 (pc' := 15) dX0_mostSparing_12 rfl (by first | rfl | assumption) rfl ?_
  rw [hw]
  refine gj_icmp_ge (pc' := 18) (tgt := 110) dX0_mostSparing_15 (by decide) rfl (by omega) (fun c15 => ?_) (fun c15 => ?_)
  · refine gj_iload_n (pc' := 111) dX0_mostSparing_110 rfl rfl ?_
    refine gj_iret rfl dX0_mostSparing_111 ?_
    exact gR_i (by rw [show T 4 = b by omega]; exact iv_b.1)
  · refine gj_iload (pc' := 20) dX0_mostSparing_18 rfl rfl ?_
    refine gj_iconst (pc' := 21) dX0_mostSparing_20 rfl ?_
    refine gj_iadd (pc' := 22) dX0_mostSparing_21 rfl ?_
    refine gj_istore (pc' := 24) dX0_mostSparing_22 rfl (by decide) ?_
    refine gJ_wk (gJ_fI2 (L := fun c x2 y2 => [some (.ref 135), some (.ref t), some (.ref 52), some (.int (zI x2)), some (.int (zI y2)), some (.int (zI (b : Int))), some (.int (zI (c : Int))), none]) (I := fun c x2 y2 => b < c ∧ x2 = (bIn T S b (bOut T S b) c).1 ∧ y2 = (if (bIn T S b (bOut T S b) c).2 = -1 then 0 else (bIn T S b (bOut T S b) c).2)) (T 4) (fun c x2 y2 hb_c iv_c ih_c => ?step_2) (b + 1) (by omega) ?x20_2 ?y20_2 ?iv0_2) ?ll0_2
    case ll0_2 =>
      repeat' (first | exact True.intro | with_reducible exact rfl | refine And.intro ?_ ?_ | refine vI ?_ | refine vL ?_)
      all_goals first | rfl | omega
    case iv0_2 =>
      exact ⟨by omega, by rw [bIn_lo T S b _ (b + 1) (Nat.le_refl _)]; exact iv_b⟩
    have es := bIn_s T S b (bOut T S b) c
    have hk := bIn_ok (S := S) hT (b := b) (by omega) ho (n := c) hb_c
    obtain ⟨hbc, hx2, hy2⟩ := iv_c
    have ec : T 4 = c → bIn T S b (bOut T S b) (T 4) = bIn T S b (bOut T S b) c := fun q => congrArg _ q
    generalize bIn T S b (bOut T S b) c = p at es hk hx2 hy2 ec
    obtain ⟨p1, p2⟩ := p
    simp only at es hx2 hy2
    have hk2 : (p1 = -2 ∧ p2 = -1) ∨ (0 ≤ p1 ∧ 0 ≤ p2 ∧ p2 ≤ 240 ∧ p1 ≤ 100) := hk
    have hy3 : (p2 = -1 ∧ y2 = 0) ∨ (p2 ≠ -1 ∧ y2 = p2) := by split at hy2 <;> omega
    have d1 := nD_le2 (tLe T S b) (tLe T S c)
    have d2 : sSp T S b c = tLe T S b + tLe T S c - nD (tLe T S b) (tLe T S c) := rfl
    have d3 := tLe_le (S := S) hT (b := b) (by omega)
    have d4 := fun q : c < T 4 => tLe_le (S := S) hT (b := c) q
    have hx3 : b < T 4 := by omega
    refine gj_iload (pc' := 26) dX0_mostSparing_24 rfl rfl ?_
    refine gj_aload_n (pc' := 27) dX0_mostSparing_26 rfl rfl ?_
    refine gf_X0_20 (pc' := 30) dX0_mostSparing_27 rfl (by first | rfl | assumption) rfl ?_
    rw [hw]
    refine gj_icmp_ge (pc' := 33) (tgt := 104) dX0_mostSparing_30 (by decide) rfl (by omega) (fun c30 => ?_) (fun c30 => ?_)
    · refine gj_iinc (pc' := 107) dX0_mostSparing_104 rfl rfl (by decide) ?_
      refine gj_goto (pc' := 9) dX0_mostSparing_107 (by decide) ?_
      refine gJ_wk (ih_b ?x_3 ?y_3 (by omega) ?iv_3) ?ll_3
      case ll_3 =>
        repeat' (first | exact True.intro | with_reducible exact rfl | refine And.intro ?_ ?_ | refine vI ?_ | refine vL ?_)
        all_goals omega
      rw [eo, ec (by omega)]
      exact ⟨hx2, hy2⟩
    · refine gj_aload_n (pc' := 34) dX0_mostSparing_33 rfl rfl ?_
      refine gj_aload_n (pc' := 35) dX0_mostSparing_34 rfl rfl ?_
      refine gj_iload (pc' := 37) dX0_mostSparing_35 rfl rfl ?_
      refine gj_iload (pc' := 39) dX0_mostSparing_37 rfl rfl ?_
      refine gr_X0_24 (pc' := 42) dX0_mostSparing_39 rfl (s_pair hI (by omega) (by omega)) rfl (by first | rfl | assumption) (by decide) rfl (Nat.le_of_ble_eq_true rfl) ?_
      first | refine gj_ifB_eq (pc' := 45) (tgt := 98) dX0_mostSparing_42 (by decide) rfl (fun c42 => ?_) (fun c42 => ?_) | refine gj_if_eq (pc' := 45) (tgt := 98) dX0_mostSparing_42 (by decide) rfl (by omega) (fun c42 => ?_) (fun c42 => ?_)
      · refine gj_iinc (pc' := 101) dX0_mostSparing_98 rfl rfl (by decide) ?_
        refine gj_goto (pc' := 24) dX0_mostSparing_101 (by decide) ?_
        refine gJ_wk (ih_c ?x2_4 ?y2_4 (by omega) ?iv_4) ?ll_4
        case ll_4 =>
          repeat' (first | exact True.intro | with_reducible exact rfl | refine And.intro ?_ ?_ | refine vI ?_ | refine vL ?_)
          all_goals omega
        rw [es]
        first
        | (rw [if_pos ⟨hbc, c42, by omega⟩]; show b < c + 1 ∧ _ = 10 * (b : Int) + (c : Int) ∧ _ = (if (sSp T S b c : Int) = -1 then (0 : Int) else (sSp T S b c : Int)); rw [if_neg (by omega)]; exact ⟨by omega, by omega, by omega⟩)
        | (rw [if_neg (by intro q; omega)]; exact ⟨by omega, hx2, hy2⟩)
        | (rw [if_neg (by rw [c42]; simp)]; exact ⟨by omega, hx2, hy2⟩)
      · refine gj_aload_n (pc' := 46) dX0_mostSparing_45 rfl rfl ?_
        refine gj_aload_n (pc' := 47) dX0_mostSparing_46 rfl rfl ?_
        refine gj_iload (pc' := 49) dX0_mostSparing_47 rfl rfl ?_
        refine gr_X0_46 (pc' := 52) dX0_mostSparing_49 rfl (s_lacking hI (by omega)) rfl (by first | rfl | assumption) (by decide) rfl (Nat.le_of_ble_eq_true rfl) ?_
        refine gj_aload_n (pc' := 53) dX0_mostSparing_52 rfl rfl ?_
        refine gj_aload_n (pc' := 54) dX0_mostSparing_53 rfl rfl ?_
        refine gj_iload (pc' := 56) dX0_mostSparing_54 rfl rfl ?_
        refine gr_X0_46 (pc' := 59) dX0_mostSparing_56 rfl (s_lacking hI (by omega)) rfl (by first | rfl | assumption) (by decide) rfl (Nat.le_of_ble_eq_true rfl) ?_
        refine gj_iadd (pc' := 60) dX0_mostSparing_59 rfl ?_
        refine gj_aload_n (pc' := 61) dX0_mostSparing_60 rfl rfl ?_
        refine gj_aload_n (pc' := 62) dX0_mostSparing_61 rfl rfl ?_
        refine gj_iload (pc' := 64) dX0_mostSparing_62 rfl rfl ?_
        refine gj_iload (pc' := 66) dX0_mostSparing_64 rfl rfl ?_
        refine gr_X0_50 (pc' := 69) dX0_mostSparing_66 rfl (s_pairCost hI (by omega) (by omega)) rfl (by first | rfl | assumption) (by decide) rfl (Nat.le_of_ble_eq_true rfl) ?_
        refine gj_isub (pc' := 70) dX0_mostSparing_69 rfl ?_
        refine gj_istore (pc' := 72) dX0_mostSparing_70 rfl (by decide) ?_
        refine gj_iload_n (pc' := 73) dX0_mostSparing_72 rfl rfl ?_
        refine gj_bipush (pc' := 75) dX0_mostSparing_73 rfl (by decide) ?_
        refine gj_icmp_eq (pc' := 78) (tgt := 85) dX0_mostSparing_75 (by decide) rfl (by omega) (fun c75 => ?_) (fun c75 => ?_)
        · refine gj_bipush (pc' := 87) dX0_mostSparing_85 rfl (by decide) ?_
          refine gj_iload (pc' := 89) dX0_mostSparing_87 rfl rfl ?_
          refine gj_imul (pc' := 90) dX0_mostSparing_89 rfl ?_
          refine gj_iload (pc' := 92) dX0_mostSparing_90 rfl rfl ?_
          refine gj_iadd (pc' := 93) dX0_mostSparing_92 rfl ?_
          refine gj_istore_n (pc' := 94) dX0_mostSparing_93 rfl (by decide) ?_
          refine gj_iload (pc' := 96) dX0_mostSparing_94 rfl rfl ?_
          refine gj_istore (pc' := 98) dX0_mostSparing_96 rfl (by decide) ?_
          refine gj_iinc (pc' := 101) dX0_mostSparing_98 rfl rfl (by decide) ?_
          refine gj_goto (pc' := 24) dX0_mostSparing_101 (by decide) ?_
          refine gJ_wk (ih_c ?x2_5 ?y2_5 (by omega) ?iv_5) ?ll_5
          case ll_5 =>
            repeat' (first | exact True.intro | with_reducible exact rfl | refine And.intro ?_ ?_ | refine vI ?_ | refine vL ?_)
            all_goals omega
          rw [es]
          first
          | (rw [if_pos ⟨hbc, c42, by omega⟩]; show b < c + 1 ∧ _ = 10 * (b : Int) + (c : Int) ∧ _ = (if (sSp T S b c : Int) = -1 then (0 : Int) else (sSp T S b c : Int)); rw [if_neg (by omega)]; exact ⟨by omega, by omega, by omega⟩)
          | (rw [if_neg (by intro q; omega)]; exact ⟨by omega, hx2, hy2⟩)
          | (rw [if_neg (by rw [c42]; simp)]; exact ⟨by omega, hx2, hy2⟩)
        · refine gj_iload (pc' := 80) dX0_mostSparing_78 rfl rfl ?_
          refine gj_iload (pc' := 82) dX0_mostSparing_80 rfl rfl ?_
          refine gj_icmp_le (pc' := 85) (tgt := 98) dX0_mostSparing_82 (by decide) rfl (by omega) (fun c82 => ?_) (fun c82 => ?_)
          · refine gj_iinc (pc' := 101) dX0_mostSparing_98 rfl rfl (by decide) ?_
            refine gj_goto (pc' := 24) dX0_mostSparing_101 (by decide) ?_
            refine gJ_wk (ih_c ?x2_6 ?y2_6 (by omega) ?iv_6) ?ll_6
            case ll_6 =>
              repeat' (first | exact True.intro | with_reducible exact rfl | refine And.intro ?_ ?_ | refine vI ?_ | refine vL ?_)
              all_goals omega
            rw [es]
            first
            | (rw [if_pos ⟨hbc, c42, by omega⟩]; show b < c + 1 ∧ _ = 10 * (b : Int) + (c : Int) ∧ _ = (if (sSp T S b c : Int) = -1 then (0 : Int) else (sSp T S b c : Int)); rw [if_neg (by omega)]; exact ⟨by omega, by omega, by omega⟩)
            | (rw [if_neg (by intro q; omega)]; exact ⟨by omega, hx2, hy2⟩)
            | (rw [if_neg (by rw [c42]; simp)]; exact ⟨by omega, hx2, hy2⟩)
          · refine gj_bipush (pc' := 87) dX0_mostSparing_85 rfl (by decide) ?_
            refine gj_iload (pc' := 89) dX0_mostSparing_87 rfl rfl ?_
            refine gj_imul (pc' := 90) dX0_mostSparing_89 rfl ?_
            refine gj_iload (pc' := 92) dX0_mostSparing_90 rfl rfl ?_
            refine gj_iadd (pc' := 93) dX0_mostSparing_92 rfl ?_
            refine gj_istore_n (pc' := 94) dX0_mostSparing_93 rfl (by decide) ?_
            refine gj_iload (pc' := 96) dX0_mostSparing_94 rfl rfl ?_
            refine gj_istore (pc' := 98) dX0_mostSparing_96 rfl (by decide) ?_
            refine gj_iinc (pc' := 101) dX0_mostSparing_98 rfl rfl (by decide) ?_
            refine gj_goto (pc' := 24) dX0_mostSparing_101 (by decide) ?_
            refine gJ_wk (ih_c ?x2_7 ?y2_7 (by omega) ?iv_7) ?ll_7
            case ll_7 =>
              repeat' (first | exact True.intro | with_reducible exact rfl | refine And.intro ?_ ?_ | refine vI ?_ | refine vL ?_)
              all_goals omega
            rw [es]
            first
            | (rw [if_pos ⟨hbc, c42, by omega⟩]; show b < c + 1 ∧ _ = 10 * (b : Int) + (c : Int) ∧ _ = (if (sSp T S b c : Int) = -1 then (0 : Int) else (sSp T S b c : Int)); rw [if_neg (by omega)]; exact ⟨by omega, by omega, by omega⟩)
            | (rw [if_neg (by intro q; omega)]; exact ⟨by omega, hx2, hy2⟩)
            | (rw [if_neg (by rw [c42]; simp)]; exact ⟨by omega, hx2, hy2⟩)
