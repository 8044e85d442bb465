/-! Present's reads -/
def CI (h : gH) (t : Nat) (T S : Nat → Nat) : Prop := isT t ∧ h.2.2 0 = t ∧ TV T ∧ SV T S ∧ TownA h t T ∧ TownB h t T ∧ PresIs h T S
theorem sv19 {T S : Nat → Nat} (hT : TV T) (hS : SV T S) : S 19 < 128 := by
  obtain ⟨-, h1, -⟩ := hS
  have h2 : T 4 ≤ 7 := hT.2.2.2.2.1
  exact Nat.lt_of_lt_of_le h1 (Nat.pow_le_pow_right (by omega) h2)
theorem tLe_eq {T S : Nat → Nat} (hS : SV T S) {b : Nat} (hb : b < T 4) : ((tLe T S b : Nat) : Int) = (tNe T b : Int) - (S b : Int) := by
  have := hS.1 b hb
  unfold tLe
  omega
theorem tLe_le {T S : Nat → Nat} (hT : TV T) {b : Nat} (hb : b < T 4) : tLe T S b ≤ 120 := by
  have := tNe_le hT hb
  unfold tLe
  omega
theorem s_isGone {h : gH} {t b : Nat} {T S : Nat → Nat} (hI : CI h t T S) (hb : b < 7) : gSp 1 yX3_isGone cX3_isGone 2 (some .boolean) [.ref 52, .int (zI (b : Int))] h (gR (.int (zI (bI (sGone S b)))) h) := by
  obtain ⟨ht, hP, hT, hS, hA, hB, hN⟩ := id hI
  have g := sv19 hT hS
  refine gSp_of (by decide +kernel) (Nat.le_of_ble_eq_true rfl) ?_
  show gJ RX3 cX3_isGone 2 (some .boolean) _ 0 [some (.ref 52), some (.int (zI (b : Int)))] [] _ _
  refine gj_aload_n (pc' := 1) dX3_isGone_0 rfl rfl ?_
  refine gf_X3_30 (pc' := 4) dX3_isGone_1 rfl (by first | rfl | assumption) rfl ?_
  rw [hN.2.2.1]
  refine gj_iload_n (pc' := 5) dX3_isGone_4 rfl rfl ?_
  refine gj_ishr (pc' := 6) dX3_isGone_5 rfl ?_
  refine gj_iconst (pc' := 7) dX3_isGone_6 rfl ?_
  refine gj_iand (pc' := 8) dX3_isGone_7 rfl ?_
  rw [bt_bit (by omega) (by omega)]
  first | refine gj_ifB_eq (pc' := 11) (tgt := 15) dX3_isGone_8 (by decide) rfl (fun c8 => ?_) (fun c8 => ?_) | refine gj_if_eq (pc' := 11) (tgt := 15) dX3_isGone_8 (by decide) rfl (by omega) (fun c8 => ?_) (fun c8 => ?_)
  · refine gj_iconst (pc' := 16) dX3_isGone_15 rfl ?_
    refine gj_zret rfl (by first | rfl | exact gnZ _ | assumption) dX3_isGone_16 ?_
    first | exact gR_t ‹_› | exact gR_f ‹_›
  · refine gj_iconst (pc' := 12) dX3_isGone_11 rfl ?_
    refine gj_goto (pc' := 16) dX3_isGone_12 (by decide) ?_
    refine gj_zret rfl (by first | rfl | exact gnZ _ | assumption) dX3_isGone_16 ?_
    first | exact gR_t ‹_› | exact gR_f ‹_›
theorem s_present {h : gH} {t : Nat} {T S : Nat → Nat} (hI : CI h t T S) : gSp 1 yX3_present cX3_present 2 (some .int) [.ref 52, .ref t] h (gR (.int (zI (nWo (2 ^ T 4 - 1) (S 19) : Nat))) h) := by
  obtain ⟨ht, hP, hT, hS, hA, hB, hN⟩ := id hI
  obtain ⟨s0, -⟩ := shT ht
  have g := sv19 hT hS
  have h4 : T 4 ≤ 7 := hT.2.2.2.2.1
  have hp : 2 ^ T 4 ≤ 128 := Nat.pow_le_pow_right (n := 2) (by omega) h4
  have hp1 : 1 ≤ 2 ^ T 4 := Nat.one_le_two_pow
  have hw : h.1 t 4 = (T 4 : Int) := hA.1 4 (by omega)
  refine gSp_of (by decide +kernel) (Nat.le_of_ble_eq_true rfl) ?_
  show gJ RX3 cX3_present 2 (some .int) _ 0 [some (.ref 52), some (.ref t)] [] _ _
  refine gj_iconst (pc' := 1) dX3_present_0 rfl ?_
  refine gj_aload_n (pc' := 2) dX3_present_1 rfl rfl ?_
  refine gf_X3_40 (pc' := 5) dX3_present_2 rfl (by first | rfl | assumption) rfl ?_
  rw [hw]
  refine gj_ishl (pc' := 6) dX3_present_5 rfl ?_
  rw [bt_shl1 (by omega)]
  refine gj_iconst (pc' := 7) dX3_present_6 rfl ?_
  refine gj_isub (pc' := 8) dX3_present_7 rfl ?_
  rw [show (((2 ^ T 4 : Nat) : Int) - 1) = ((2 ^ T 4 - 1 : Nat) : Int) by omega]
  refine gj_aload_n (pc' := 9) dX3_present_8 rfl rfl ?_
  refine gf_X3_30 (pc' := 12) dX3_present_9 rfl (by first | rfl | assumption) rfl ?_
  rw [hN.2.2.1]
  refine gj_iconst (pc' := 13) dX3_present_12 rfl ?_
  refine gj_ixor (pc' := 14) dX3_present_13 rfl ?_
  refine gj_iand (pc' := 15) dX3_present_14 rfl ?_
  rw [bt_wo (by omega) (by omega)]
  refine gj_iret rfl dX3_present_15 ?_
  exact gR_i rfl
theorem s_lacking {h : gH} {t b : Nat} {T S : Nat → Nat} (hI : CI h t T S) (hb : b < T 4) : gSp 1 yX3_lacking cX3_lacking 3 (some .int) [.ref 52, .ref t, .int (zI (b : Int))] h (gR (.int (zI (tLe T S b : Nat))) h) := by
  obtain ⟨ht, hP, hT, hS, hA, hB, hN⟩ := id hI
  obtain ⟨s0, -, -, -, -, -, -, s7, -⟩ := shT ht
  have h4 : T 4 ≤ 7 := hT.2.2.2.2.1
  refine gSp_of (by decide +kernel) (Nat.le_of_ble_eq_true rfl) ?_
  show gJ RX3 cX3_lacking 3 (some .int) _ 0 [some (.ref 52), some (.ref t), some (.int (zI (b : Int)))] [] _ _
  refine gj_aload_n (pc' := 1) dX3_lacking_0 rfl rfl ?_
  refine gf_X3_43 (pc' := 4) dX3_lacking_1 rfl (by first | rfl | assumption) rfl ?_
  refine gj_iload_n (pc' := 5) dX3_lacking_4 rfl rfl ?_
  refine gj_iald (pc' := 6) (by first | rfl | assumption) rfl (by omega) (by decide) dX3_lacking_5 rfl ?_
  rw [(hA.2.2 b hb).2.2.2.2]
  refine gj_aload_n (pc' := 7) dX3_lacking_6 rfl rfl ?_
  refine gf_X3_20 (pc' := 10) dX3_lacking_7 rfl (by first | rfl | assumption) rfl ?_
  refine gj_iload_n (pc' := 11) dX3_lacking_10 rfl rfl ?_
  refine gj_iald (pc' := 12) (by first | rfl | assumption) rfl (by omega) (by decide) dX3_lacking_11 rfl ?_
  rw [hN.2.2.2.2 b hb]
  refine gj_isub (pc' := 13) dX3_lacking_12 rfl ?_
  refine gj_iret rfl dX3_lacking_13 ?_
  exact gR_i (tLe_eq hS hb).symm
theorem s_stateOn {h : gH} {t b day : Nat} {T S : Nat → Nat} (hI : CI h t T S) (hb : b < T 4) (hd : day ≤ 2000) : gSp 3 yX3_stateOn cX3_stateOn 4 (some .int) [.ref 52, .ref t, .int (zI (b : Int)), .int (zI (day : Int))] h (gR (.int (zI (sWh T S b day : Nat))) h) := by
  obtain ⟨ht, hP, hT, hS, hA, hB, hN⟩ := id hI
  obtain ⟨s0, -, -, -, -, -, s6, -⟩ := shT ht
  have h4 : T 4 ≤ 7 := hT.2.2.2.2.1
  have h9 := hT.2.2.2.2.2.2.2.2.1 b hb
  have hsf := tSf_le hT hb
  refine gSp_of (by decide +kernel) (Nat.le_of_ble_eq_true rfl) ?_
  show gJ RX3 cX3_stateOn 4 (some .int) _ 0 [some (.ref 52), some (.ref t), some (.int (zI (b : Int))), some (.int (zI (day : Int)))] [] _ _
  refine gj_aload_n (pc' := 1) dX3_stateOn_0 rfl rfl ?_
  refine gj_iload_n (pc' := 2) dX3_stateOn_1 rfl rfl ?_
  refine gr_X3_46 (pc' := 5) dX3_stateOn_2 rfl (s_isGone hI (by omega)) rfl (by first | rfl | assumption) (by decide) rfl (Nat.le_of_ble_eq_true rfl) ?_
  first | refine gj_ifB_eq (pc' := 8) (tgt := 10) dX3_stateOn_5 (by decide) rfl (fun c5 => ?_) (fun c5 => ?_) | refine gj_if_eq (pc' := 8) (tgt := 10) dX3_stateOn_5 (by decide) rfl (by omega) (fun c5 => ?_) (fun c5 => ?_)
  · refine gj_iload_n (pc' := 11) dX3_stateOn_10 rfl rfl ?_
    refine gj_aload_n (pc' := 12) dX3_stateOn_11 rfl rfl ?_
    refine gf_X3_50 (pc' := 15) dX3_stateOn_12 rfl (by first | rfl | assumption) rfl ?_
    refine gj_iload_n (pc' := 16) dX3_stateOn_15 rfl rfl ?_
    refine gj_iald (pc' := 17) (by first | rfl | assumption) rfl (by omega) (by decide) dX3_stateOn_16 rfl ?_
    rw [(hA.2.2 b hb).2.2.2.1]
    refine gj_icmp_ge (pc' := 20) (tgt := 22) dX3_stateOn_17 (by decide) rfl (by omega) (fun c17 => ?_) (fun c17 => ?_)
    · refine gj_iload_n (pc' := 23) dX3_stateOn_22 rfl rfl ?_
      refine gj_aload_n (pc' := 24) dX3_stateOn_23 rfl rfl ?_
      refine gj_iload_n (pc' := 25) dX3_stateOn_24 rfl rfl ?_
      refine gr_X3_53 (pc' := 28) dX3_stateOn_25 rfl (s_sitsFrom ht hA hB hT hb) rfl (by first | rfl | assumption) (by decide) rfl (Nat.le_of_ble_eq_true rfl) ?_
      refine gj_icmp_ge (pc' := 31) (tgt := 35) dX3_stateOn_28 (by decide) rfl (by omega) (fun c28 => ?_) (fun c28 => ?_)
      · refine gj_iconst (pc' := 36) dX3_stateOn_35 rfl ?_
        refine gj_iret rfl dX3_stateOn_36 ?_
        exact gR_i (by unfold sWh; rw [if_neg (by rw [c5]; decide)]; (first | rw [if_pos (by omega)] | rw [if_neg (by omega)]); (first | rfl | rw [if_pos (by omega)]; rfl | rw [if_neg (by omega)]; rfl))
      · refine gj_iconst (pc' := 32) dX3_stateOn_31 rfl ?_
        refine gj_goto (pc' := 36) dX3_stateOn_32 (by decide) ?_
        refine gj_iret rfl dX3_stateOn_36 ?_
        exact gR_i (by unfold sWh; rw [if_neg (by rw [c5]; decide)]; (first | rw [if_pos (by omega)] | rw [if_neg (by omega)]); (first | rfl | rw [if_pos (by omega)]; rfl | rw [if_neg (by omega)]; rfl))
    · refine gj_iconst (pc' := 21) dX3_stateOn_20 rfl ?_
      refine gj_iret rfl dX3_stateOn_21 ?_
      exact gR_i (by unfold sWh; rw [if_neg (by rw [c5]; decide)]; (first | rw [if_pos (by omega)] | rw [if_neg (by omega)]); (first | rfl | rw [if_pos (by omega)]; rfl | rw [if_neg (by omega)]; rfl))
  · refine gj_iconst (pc' := 9) dX3_stateOn_8 rfl ?_
    refine gj_iret rfl dX3_stateOn_9 ?_
    exact gR_i (by unfold sWh; rw [if_pos c5]; rfl)
theorem s_sitsOn {h : gH} {t b day : Nat} {T S : Nat → Nat} (hI : CI h t T S) (hb : b < T 4) (hd : day ≤ 2000) : gSp 4 yX3_sitsOn cX3_sitsOn 4 (some .boolean) [.ref 52, .ref t, .int (zI (b : Int)), .int (zI (day : Int))] h (gR (.int (zI (bI (sWh T S b day == 2)))) h) := by
  have hl : sWh T S b day ≤ 3 := by unfold sWh; repeat' (first | omega | split)
  refine gSp_of (by decide +kernel) (Nat.le_of_ble_eq_true rfl) ?_
  show gJ RX3 cX3_sitsOn 4 (some .boolean) _ 0 [some (.ref 52), some (.ref t), some (.int (zI (b : Int))), some (.int (zI (day : Int)))] [] _ _
  refine gj_aload_n (pc' := 1) dX3_sitsOn_0 rfl rfl ?_
  refine gj_aload_n (pc' := 2) dX3_sitsOn_1 rfl rfl ?_
  refine gj_iload_n (pc' := 3) dX3_sitsOn_2 rfl rfl ?_
  refine gj_iload_n (pc' := 4) dX3_sitsOn_3 rfl rfl ?_
  refine gr_X3_57 (pc' := 7) dX3_sitsOn_4 rfl (s_stateOn hI hb hd) rfl (by first | rfl | assumption) (by decide) rfl (Nat.le_of_ble_eq_true rfl) ?_
  refine gj_iconst (pc' := 8) dX3_sitsOn_7 rfl ?_
  refine gj_icmp_ne (pc' := 11) (tgt := 15) dX3_sitsOn_8 (by decide) rfl (by omega) (fun c8 => ?_) (fun c8 => ?_)
  · refine gj_iconst (pc' := 16) dX3_sitsOn_15 rfl ?_
    refine gj_zret rfl (by first | rfl | exact gnZ _ | assumption) dX3_sitsOn_16 ?_
    first | exact gR_t (by simp; omega) | exact gR_f (by simp; omega)
  · refine gj_iconst (pc' := 12) dX3_sitsOn_11 rfl ?_
    refine gj_goto (pc' := 16) dX3_sitsOn_12 (by decide) ?_
    refine gj_zret rfl (by first | rfl | exact gnZ _ | assumption) dX3_sitsOn_16 ?_
    first | exact gR_t (by simp; omega) | exact gR_f (by simp; omega)
theorem s_sitters {h : gH} {t hs day : Nat} {T S : Nat → Nat} (hI : CI h t T S) (hh : hs < 7) (hd : day ≤ 2000) : gSp 5 yX3_sitters cX3_sitters 6 (some .int) [.ref 52, .ref t, .int (zI (hs : Int)), .int (zI (day : Int))] h (gR (.int (zI (sSet T S hs day : Nat))) h) := by
  obtain ⟨ht, hP, hT, hS, hA, hB, hN⟩ := id hI
  obtain ⟨s0, -, -, -, -, -, -, -, s8, -⟩ := shT ht
  have h4 : T 4 ≤ 7 := hT.2.2.2.2.1
  have h3 : T 3 ≤ 6 := hT.2.2.2.1.2
  have hw : h.1 t 4 = (T 4 : Int) := hA.1 4 (by omega)
  refine gSp_of (by decide +kernel) (Nat.le_of_ble_eq_true rfl) ?_
  show gJ RX3 cX3_sitters 6 (some .int) _ 0 [some (.ref 52), some (.ref t), some (.int (zI (hs : Int))), some (.int (zI (day : Int))), none, none] [] _ _
  refine gj_iconst (pc' := 1) dX3_sitters_0 rfl ?_
  refine gj_istore (pc' := 3) dX3_sitters_1 rfl (by decide) ?_
  refine gj_iconst (pc' := 4) dX3_sitters_3 rfl ?_
  refine gj_istore (pc' := 6) dX3_sitters_4 rfl (by decide) ?_
  refine gJ_wk (gJ_for (L := fun b => [some (.ref 52), some (.ref t), some (.int (zI (hs : Int))), some (.int (zI (day : Int))), some (.int (zI ((bN (sSit T S hs day) b : Nat) : Int))), some (.int (zI (b : Int)))]) (T 4) (fun b hb_b ih_b => ?_) (0) (Nat.zero_le _)) ?_
  · refine gj_iload (pc' := 8) dX3_sitters_6 rfl rfl ?_
    refine gj_aload_n (pc' := 9) dX3_sitters_8 rfl rfl ?_
    refine gf_X3_40 (pc' := 12) dX3_sitters_9 rfl (by first | rfl | assumption) rfl ?_
    rw [hw]
    refine gj_icmp_ge (pc' := 15) (tgt := 52) dX3_sitters_12 (by decide) rfl (by omega) (fun c12 => ?_) (fun c12 => ?_)
    · refine gj_iload (pc' := 54) dX3_sitters_52 rfl rfl ?_
      refine gj_iret rfl dX3_sitters_54 ?_
      exact gR_i (by rw [show b = T 4 by omega]; rfl)
    · refine gj_aload_n (pc' := 16) dX3_sitters_15 rfl rfl ?_
      refine gf_X3_61 (pc' := 19) dX3_sitters_16 rfl (by first | rfl | assumption) rfl ?_
      refine gj_iload (pc' := 21) dX3_sitters_19 rfl rfl ?_
      refine gj_iald (pc' := 22) (by first | rfl | assumption) rfl (by omega) (by decide) dX3_sitters_21 rfl ?_
      rw [(hB b (by omega)).1]
      refine gj_iload_n (pc' := 23) dX3_sitters_22 rfl rfl ?_
      refine gj_icmp_ne (pc' := 26) (tgt := 46) dX3_sitters_23 (by decide) rfl (by have := tSill_lt hT (b := b) (by omega); omega) (fun c23 => ?_) (fun c23 => ?_)
      · refine gj_iinc (pc' := 49) dX3_sitters_46 rfl rfl (by decide) ?_
        refine gj_goto (pc' := 6) dX3_sitters_49 (by decide) ?_
        refine gJ_wk (ih_b (by omega)) ?_
        repeat' (first | exact True.intro | with_reducible exact rfl | refine And.intro ?_ ?_ | refine vI ?_ | refine vL ?_)
        all_goals first | omega | (rw [bN_t (by unfold sSit; rw [c34]; simp; omega)]) | (rw [bN_f (by unfold sSit; rw [c34]; simp)]) | (rw [bN_f (by unfold sSit; simp; intro q; omega)])
      · refine gj_aload_n (pc' := 27) dX3_sitters_26 rfl rfl ?_
        refine gj_aload_n (pc' := 28) dX3_sitters_27 rfl rfl ?_
        refine gj_iload (pc' := 30) dX3_sitters_28 rfl rfl ?_
        refine gj_iload_n (pc' := 31) dX3_sitters_30 rfl rfl ?_
        refine gr_X3_64 (pc' := 34) dX3_sitters_31 rfl (s_sitsOn hI (by omega) hd) rfl (by first | rfl | assumption) (by decide) rfl (Nat.le_of_ble_eq_true rfl) ?_
        first | refine gj_ifB_eq (pc' := 37) (tgt := 46) dX3_sitters_34 (by decide) rfl (fun c34 => ?_) (fun c34 => ?_) | refine gj_if_eq (pc' := 37) (tgt := 46) dX3_sitters_34 (by decide) rfl (by omega) (fun c34 => ?_) (fun c34 => ?_)
        · refine gj_iinc (pc' := 49) dX3_sitters_46 rfl rfl (by decide) ?_
          refine gj_goto (pc' := 6) dX3_sitters_49 (by decide) ?_
          refine gJ_wk (ih_b (by omega)) ?_
          repeat' (first | exact True.intro | with_reducible exact rfl | refine And.intro ?_ ?_ | refine vI ?_ | refine vL ?_)
          all_goals first | omega | (rw [bN_t (by unfold sSit; rw [c34]; simp; omega)]) | (rw [bN_f (by unfold sSit; rw [c34]; simp)]) | (rw [bN_f (by unfold sSit; simp; intro q; omega)])
        · refine gj_iload (pc' := 39) dX3_sitters_37 rfl rfl ?_
          refine gj_iconst (pc' := 40) dX3_sitters_39 rfl ?_
          refine gj_iload (pc' := 42) dX3_sitters_40 rfl rfl ?_
          refine gj_ishl (pc' := 43) dX3_sitters_42 rfl ?_
          rw [bt_shl1 (by omega)]
          refine gj_ior (pc' := 44) dX3_sitters_43 rfl ?_
          rw [bN_orI (by omega)]
          refine gj_istore (pc' := 46) dX3_sitters_44 rfl (by decide) ?_
          refine gj_iinc (pc' := 49) dX3_sitters_46 rfl rfl (by decide) ?_
          refine gj_goto (pc' := 6) dX3_sitters_49 (by decide) ?_
          refine gJ_wk (ih_b (by omega)) ?_
          repeat' (first | exact True.intro | with_reducible exact rfl | refine And.intro ?_ ?_ | refine vI ?_ | refine vL ?_)
          all_goals first | omega | (rw [bN_t (by unfold sSit; rw [c34]; simp; omega)]) | (rw [bN_f (by unfold sSit; rw [c34]; simp)]) | (rw [bN_f (by unfold sSit; simp; intro q; omega)])
  · repeat' (first | exact True.intro | with_reducible exact rfl | refine And.intro ?_ ?_ | refine vI ?_ | refine vL ?_)
    all_goals first | rfl | omega
theorem s_birdsFor {h : gH} {t hs : Nat} {T S : Nat → Nat} (hI : CI h t T S) (hh : hs < 7) : gSp 2 yX3_birdsFor cX3_birdsFor 5 (some .int) [.ref 52, .ref t, .int (zI (hs : Int))] h (gR (.int (zI (sAg T S hs : Nat))) h) := by
  obtain ⟨ht, hP, hT, hS, hA, hB, hN⟩ := id hI
  obtain ⟨s0, -, -, -, -, s5, -⟩ := shT ht
  have h4 : T 4 ≤ 7 := hT.2.2.2.2.1
  have h3 : T 3 ≤ 6 := hT.2.2.2.1.2
  have hw : h.1 t 4 = (T 4 : Int) := hA.1 4 (by omega)
  refine gSp_of (by decide +kernel) (Nat.le_of_ble_eq_true rfl) ?_
  show gJ RX3 cX3_birdsFor 5 (some .int) _ 0 [some (.ref 52), some (.ref t), some (.int (zI (hs : Int))), none, none] [] _ _
  refine gj_iconst (pc' := 1) dX3_birdsFor_0 rfl ?_
  refine gj_istore_n (pc' := 2) dX3_birdsFor_1 rfl (by decide) ?_
  refine gj_iconst (pc' := 3) dX3_birdsFor_2 rfl ?_
  refine gj_istore (pc' := 5) dX3_birdsFor_3 rfl (by decide) ?_
  refine gJ_wk (gJ_for (L := fun b => [some (.ref 52), some (.ref t), some (.int (zI (hs : Int))), some (.int (zI ((bN (sFor T S hs) b : Nat) : Int))), some (.int (zI (b : Int)))]) (T 4) (fun b hb_b ih_b => ?_) (0) (Nat.zero_le _)) ?_
  · refine gj_iload (pc' := 7) dX3_birdsFor_5 rfl rfl ?_
    refine gj_aload_n (pc' := 8) dX3_birdsFor_7 rfl rfl ?_
    refine gf_X3_40 (pc' := 11) dX3_birdsFor_8 rfl (by first | rfl | assumption) rfl ?_
    rw [hw]
    refine gj_icmp_ge (pc' := 14) (tgt := 47) dX3_birdsFor_11 (by decide) rfl (by omega) (fun c11 => ?_) (fun c11 => ?_)
    · refine gj_iload_n (pc' := 48) dX3_birdsFor_47 rfl rfl ?_
      refine gj_iret rfl dX3_birdsFor_48 ?_
      exact gR_i (by rw [show b = T 4 by omega]; rfl)
    · refine gj_aload_n (pc' := 15) dX3_birdsFor_14 rfl rfl ?_
      refine gf_X3_68 (pc' := 18) dX3_birdsFor_15 rfl (by first | rfl | assumption) rfl ?_
      refine gj_iload (pc' := 20) dX3_birdsFor_18 rfl rfl ?_
      refine gj_iald (pc' := 21) (by first | rfl | assumption) rfl (by omega) (by decide) dX3_birdsFor_20 rfl ?_
      rw [(hA.2.2 b (by omega)).2.2.1]
      refine gj_iload_n (pc' := 22) dX3_birdsFor_21 rfl rfl ?_
      refine gj_icmp_ne (pc' := 25) (tgt := 41) dX3_birdsFor_22 (by decide) rfl (by have := hT.2.2.2.2.2.2.2.2.1 b (by omega); omega) (fun c22 => ?_) (fun c22 => ?_)
      · refine gj_iinc (pc' := 44) dX3_birdsFor_41 rfl rfl (by decide) ?_
        refine gj_goto (pc' := 5) dX3_birdsFor_44 (by decide) ?_
        refine gJ_wk (ih_b (by omega)) ?_
        repeat' (first | exact True.intro | with_reducible exact rfl | refine And.intro ?_ ?_ | refine vI ?_ | refine vL ?_)
        all_goals first | omega | (rw [bN_t (by unfold sFor; rw [c31]; simp; omega)]) | (rw [bN_f (by unfold sFor; rw [c31]; simp)]) | (rw [bN_f (by unfold sFor; simp; intro q; omega)])
      · refine gj_aload_n (pc' := 26) dX3_birdsFor_25 rfl rfl ?_
        refine gj_iload (pc' := 28) dX3_birdsFor_26 rfl rfl ?_
        refine gr_X3_46 (pc' := 31) dX3_birdsFor_28 rfl (s_isGone hI (by omega)) rfl (by first | rfl | assumption) (by decide) rfl (Nat.le_of_ble_eq_true rfl) ?_
        first | refine gj_ifB_ne (pc' := 34) (tgt := 41) dX3_birdsFor_31 (by decide) rfl (fun c31 => ?_) (fun c31 => ?_) | refine gj_if_ne (pc' := 34) (tgt := 41) dX3_birdsFor_31 (by decide) rfl (by omega) (fun c31 => ?_) (fun c31 => ?_)
        · refine gj_iinc (pc' := 44) dX3_birdsFor_41 rfl rfl (by decide) ?_
          refine gj_goto (pc' := 5) dX3_birdsFor_44 (by decide) ?_
          refine gJ_wk (ih_b (by omega)) ?_
          repeat' (first | exact True.intro | with_reducible exact rfl | refine And.intro ?_ ?_ | refine vI ?_ | refine vL ?_)
          all_goals first | omega | (rw [bN_t (by unfold sFor; rw [c31]; simp; omega)]) | (rw [bN_f (by unfold sFor; rw [c31]; simp)]) | (rw [bN_f (by unfold sFor; simp; intro q; omega)])
        · refine gj_iload_n (pc' := 35) dX3_birdsFor_34 rfl rfl ?_
          refine gj_iconst (pc' := 36) dX3_birdsFor_35 rfl ?_
          refine gj_iload (pc' := 38) dX3_birdsFor_36 rfl rfl ?_
          refine gj_ishl (pc' := 39) dX3_birdsFor_38 rfl ?_
          rw [bt_shl1 (by omega)]
          refine gj_ior (pc' := 40) dX3_birdsFor_39 rfl ?_
          rw [bN_orI (by omega)]
          refine gj_istore_n (pc' := 41) dX3_birdsFor_40 rfl (by decide) ?_
          refine gj_iinc (pc' := 44) dX3_birdsFor_41 rfl rfl (by decide) ?_
          refine gj_goto (pc' := 5) dX3_birdsFor_44 (by decide) ?_
          refine gJ_wk (ih_b (by omega)) ?_
          repeat' (first | exact True.intro | with_reducible exact rfl | refine And.intro ?_ ?_ | refine vI ?_ | refine vL ?_)
          all_goals first | omega | (rw [bN_t (by unfold sFor; rw [c31]; simp; omega)]) | (rw [bN_f (by unfold sFor; rw [c31]; simp)]) | (rw [bN_f (by unfold sFor; simp; intro q; omega)])
  · repeat' (first | exact True.intro | with_reducible exact rfl | refine And.intro ?_ ?_ | refine vI ?_ | refine vL ?_)
    all_goals first | rfl | omega
theorem s_canPair {h : gH} {t b c : Nat} {T S : Nat → Nat} (hI : CI h t T S) (hb : b < T 4) (hc : c < T 4) : gSp 2 yX3_canPair cX3_canPair 4 (some .boolean) [.ref 52, .ref t, .int (zI (b : Int)), .int (zI (c : Int))] h (gR (.int (zI (bI (!sGone S b && !sGone S c && T (20 + 5 * b) == T (21 + 5 * c) && T (20 + 5 * c) == T (21 + 5 * b))))) h) := by
  obtain ⟨ht, hP, hT, hS, hA, hB, hN⟩ := id hI
  obtain ⟨s0, -, -, -, s4, s5, -⟩ := shT ht
  have h4 : T 4 ≤ 7 := hT.2.2.2.2.1
  have h3 : T 3 ≤ 6 := hT.2.2.2.1.2
  have hb9 := hT.2.2.2.2.2.2.2.2.1 b hb
  have hc9 := hT.2.2.2.2.2.2.2.2.1 c hc
  refine gSp_of (by decide +kernel) (Nat.le_of_ble_eq_true rfl) ?_
  show gJ RX3 cX3_canPair 4 (some .boolean) _ 0 [some (.ref 52), some (.ref t), some (.int (zI (b : Int))), some (.int (zI (c : Int)))] [] _ _
  refine gj_aload_n (pc' := 1) dX3_canPair_0 rfl rfl ?_
  refine gj_iload_n (pc' := 2) dX3_canPair_1 rfl rfl ?_
  refine gr_X3_46 (pc' := 5) dX3_canPair_2 rfl (s_isGone hI (by omega)) rfl (by first | rfl | assumption) (by decide) rfl (Nat.le_of_ble_eq_true rfl) ?_
  first | refine gj_ifB_ne (pc' := 8) (tgt := 50) dX3_canPair_5 (by decide) rfl (fun c5 => ?_) (fun c5 => ?_) | refine gj_if_ne (pc' := 8) (tgt := 50) dX3_canPair_5 (by decide) rfl (by omega) (fun c5 => ?_) (fun c5 => ?_)
  · refine gj_iconst (pc' := 51) dX3_canPair_50 rfl ?_
    refine gj_zret rfl (by first | rfl | exact gnZ _ | assumption) dX3_canPair_51 ?_
    first | exact gR_t (by rw [c5, c13]; simp; omega) | exact gR_f (by rw [c5, c13]; simp; omega) | exact gR_f (by simp_all)
  · refine gj_aload_n (pc' := 9) dX3_canPair_8 rfl rfl ?_
    refine gj_iload_n (pc' := 10) dX3_canPair_9 rfl rfl ?_
    refine gr_X3_46 (pc' := 13) dX3_canPair_10 rfl (s_isGone hI (by omega)) rfl (by first | rfl | assumption) (by decide) rfl (Nat.le_of_ble_eq_true rfl) ?_
    first | refine gj_ifB_ne (pc' := 16) (tgt := 50) dX3_canPair_13 (by decide) rfl (fun c13 => ?_) (fun c13 => ?_) | refine gj_if_ne (pc' := 16) (tgt := 50) dX3_canPair_13 (by decide) rfl (by omega) (fun c13 => ?_) (fun c13 => ?_)
    · refine gj_iconst (pc' := 51) dX3_canPair_50 rfl ?_
      refine gj_zret rfl (by first | rfl | exact gnZ _ | assumption) dX3_canPair_51 ?_
      first | exact gR_t (by rw [c5, c13]; simp; omega) | exact gR_f (by rw [c5, c13]; simp; omega) | exact gR_f (by simp_all)
    · refine gj_aload_n (pc' := 17) dX3_canPair_16 rfl rfl ?_
      refine gf_X3_107 (pc' := 20) dX3_canPair_17 rfl (by first | rfl | assumption) rfl ?_
      refine gj_iload_n (pc' := 21) dX3_canPair_20 rfl rfl ?_
      refine gj_iald (pc' := 22) (by first | rfl | assumption) rfl (by omega) (by decide) dX3_canPair_21 rfl ?_
      rw [(hA.2.2 b hb).2.1]
      refine gj_aload_n (pc' := 23) dX3_canPair_22 rfl rfl ?_
      refine gf_X3_68 (pc' := 26) dX3_canPair_23 rfl (by first | rfl | assumption) rfl ?_
      refine gj_iload_n (pc' := 27) dX3_canPair_26 rfl rfl ?_
      refine gj_iald (pc' := 28) (by first | rfl | assumption) rfl (by omega) (by decide) dX3_canPair_27 rfl ?_
      rw [(hA.2.2 c hc).2.2.1]
      refine gj_icmp_ne (pc' := 31) (tgt := 50) dX3_canPair_28 (by decide) rfl (by omega) (fun c28 => ?_) (fun c28 => ?_)
      · refine gj_iconst (pc' := 51) dX3_canPair_50 rfl ?_
        refine gj_zret rfl (by first | rfl | exact gnZ _ | assumption) dX3_canPair_51 ?_
        first | exact gR_t (by rw [c5, c13]; simp; omega) | exact gR_f (by rw [c5, c13]; simp; omega) | exact gR_f (by simp_all)
      · refine gj_aload_n (pc' := 32) dX3_canPair_31 rfl rfl ?_
        refine gf_X3_107 (pc' := 35) dX3_canPair_32 rfl (by first | rfl | assumption) rfl ?_
        refine gj_iload_n (pc' := 36) dX3_canPair_35 rfl rfl ?_
        refine gj_iald (pc' := 37) (by first | rfl | assumption) rfl (by omega) (by decide) dX3_canPair_36 rfl ?_
        rw [(hA.2.2 c hc).2.1]
        refine gj_aload_n (pc' := 38) dX3_canPair_37 rfl rfl ?_
        refine gf_X3_68 (pc' := 41) dX3_canPair_38 rfl (by first | rfl | assumption) rfl ?_
        refine gj_iload_n (pc' := 42) dX3_canPair_41 rfl rfl ?_
        refine gj_iald (pc' := 43) (by first | rfl | assumption) rfl (by omega) (by decide) dX3_canPair_42 rfl ?_
        rw [(hA.2.2 b hb).2.2.1]
        refine gj_icmp_ne (pc' := 46) (tgt := 50) dX3_canPair_43 (by decide) rfl (by omega) (fun c43 => ?_) (fun c43 => ?_)
        · refine gj_iconst (pc' := 51) dX3_canPair_50 rfl ?_
          refine gj_zret rfl (by first | rfl | exact gnZ _ | assumption) dX3_canPair_51 ?_
          first | exact gR_t (by rw [c5, c13]; simp; omega) | exact gR_f (by rw [c5, c13]; simp; omega) | exact gR_f (by simp_all)
        · refine gj_iconst (pc' := 47) dX3_canPair_46 rfl ?_
          refine gj_goto (pc' := 51) dX3_canPair_47 (by decide) ?_
          refine gj_zret rfl (by first | rfl | exact gnZ _ | assumption) dX3_canPair_51 ?_
          first | exact gR_t (by rw [c5, c13]; simp; omega) | exact gR_f (by rw [c5, c13]; simp; omega) | exact gR_f (by simp_all)
theorem s_pairCost {h : gH} {t b c : Nat} {T S : Nat → Nat} (hI : CI h t T S) (hb : b < T 4) (hc : c < T 4) : gSp 2 yX3_pairCost cX3_pairCost 4 (some .int) [.ref 52, .ref t, .int (zI (b : Int)), .int (zI (c : Int))] h (gR (.int (zI (nD (tLe T S b) (tLe T S c) : Nat))) h) := by
  obtain ⟨ht, hP, hT, hS, hA, hB, hN⟩ := id hI
  have e1 := tLe_le (S := S) hT hb
  have e2 := tLe_le (S := S) hT hc
  refine gSp_of (by decide +kernel) (Nat.le_of_ble_eq_true rfl) ?_
  show gJ RX3 cX3_pairCost 4 (some .int) _ 0 [some (.ref 52), some (.ref t), some (.int (zI (b : Int))), some (.int (zI (c : Int)))] [] _ _
  refine gj_aload_n (pc' := 1) dX3_pairCost_0 rfl rfl ?_
  refine gj_aload_n (pc' := 2) dX3_pairCost_1 rfl rfl ?_
  refine gj_iload_n (pc' := 3) dX3_pairCost_2 rfl rfl ?_
  refine gr_X3_101 (pc' := 6) dX3_pairCost_3 rfl (s_lacking hI hb) rfl (by first | rfl | assumption) (by decide) rfl (Nat.le_of_ble_eq_true rfl) ?_
  refine gj_aload_n (pc' := 7) dX3_pairCost_6 rfl rfl ?_
  refine gj_aload_n (pc' := 8) dX3_pairCost_7 rfl rfl ?_
  refine gj_iload_n (pc' := 9) dX3_pairCost_8 rfl rfl ?_
  refine gr_X3_101 (pc' := 12) dX3_pairCost_9 rfl (s_lacking hI hc) rfl (by first | rfl | assumption) (by decide) rfl (Nat.le_of_ble_eq_true rfl) ?_
  refine gj_isub (pc' := 13) dX3_pairCost_12 rfl ?_
  refine gj_mabs (pc' := 16) dX3_pairCost_13 rfl wm_X3_110 (by decide) (by omega) (Nat.le_of_ble_eq_true rfl) ?_
  refine gj_iret rfl dX3_pairCost_16 ?_
  exact gR_i (by unfold nD; split <;> omega)
theorem s_pairPayer {h : gH} {t b c : Nat} {T S : Nat → Nat} (hI : CI h t T S) (hb : b < T 4) (hc : c < T 4) : gSp 2 yX3_pairPayer cX3_pairPayer 4 (some .int) [.ref 52, .ref t, .int (zI (b : Int)), .int (zI (c : Int))] h (gR (.int (zI ((if tLe T S b < tLe T S c then T (21 + 5 * c) else T (21 + 5 * b) : Nat) : Int))) h) := by
  obtain ⟨ht, hP, hT, hS, hA, hB, hN⟩ := id hI
  obtain ⟨s0, -, -, -, -, s5, -⟩ := shT ht
  have h4 : T 4 ≤ 7 := hT.2.2.2.2.1
  have e1 := tLe_le (S := S) hT hb
  have e2 := tLe_le (S := S) hT hc
  refine gSp_of (by decide +kernel) (Nat.le_of_ble_eq_true rfl) ?_
  show gJ RX3 cX3_pairPayer 4 (some .int) _ 0 [some (.ref 52), some (.ref t), some (.int (zI (b : Int))), some (.int (zI (c : Int)))] [] _ _
  refine gj_aload_n (pc' := 1) dX3_pairPayer_0 rfl rfl ?_
  refine gj_aload_n (pc' := 2) dX3_pairPayer_1 rfl rfl ?_
  refine gj_iload_n (pc' := 3) dX3_pairPayer_2 rfl rfl ?_
  refine gr_X3_101 (pc' := 6) dX3_pairPayer_3 rfl (s_lacking hI hb) rfl (by first | rfl | assumption) (by decide) rfl (Nat.le_of_ble_eq_true rfl) ?_
  refine gj_aload_n (pc' := 7) dX3_pairPayer_6 rfl rfl ?_
  refine gj_aload_n (pc' := 8) dX3_pairPayer_7 rfl rfl ?_
  refine gj_iload_n (pc' := 9) dX3_pairPayer_8 rfl rfl ?_
  refine gr_X3_101 (pc' := 12) dX3_pairPayer_9 rfl (s_lacking hI hc) rfl (by first | rfl | assumption) (by decide) rfl (Nat.le_of_ble_eq_true rfl) ?_
  refine gj_icmp_lt (pc' := 15) (tgt := 24) dX3_pairPayer_12 (by decide) rfl (by omega) (fun c12 => ?_) (fun c12 => ?_)
  · refine gj_aload_n (pc' := 25) dX3_pairPayer_24 rfl rfl ?_
    refine gf_X3_68 (pc' := 28) dX3_pairPayer_25 rfl (by first | rfl | assumption) rfl ?_
    refine gj_iload_n (pc' := 29) dX3_pairPayer_28 rfl rfl ?_
    refine gj_iald (pc' := 30) (by first | rfl | assumption) rfl (by omega) (by decide) dX3_pairPayer_29 rfl ?_
    rw [(hA.2.2 c hc).2.2.1]
    refine gj_iret rfl dX3_pairPayer_30 ?_
    first | exact gR_i (by rw [if_pos (by omega)]) | exact gR_i (by rw [if_neg (by omega)])
  · refine gj_aload_n (pc' := 16) dX3_pairPayer_15 rfl rfl ?_
    refine gf_X3_68 (pc' := 19) dX3_pairPayer_16 rfl (by first | rfl | assumption) rfl ?_
    refine gj_iload_n (pc' := 20) dX3_pairPayer_19 rfl rfl ?_
    refine gj_iald (pc' := 21) (by first | rfl | assumption) rfl (by omega) (by decide) dX3_pairPayer_20 rfl ?_
    rw [(hA.2.2 b hb).2.2.1]
    refine gj_goto (pc' := 30) dX3_pairPayer_21 (by decide) ?_
    refine gj_iret rfl dX3_pairPayer_30 ?_
    first | exact gR_i (by rw [if_pos (by omega)]) | exact gR_i (by rw [if_neg (by omega)])
