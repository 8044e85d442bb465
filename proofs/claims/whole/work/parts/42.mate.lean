/-! PEACE: with whom, the class -/
theorem pz_row {T S : Nat → Nat} {m : Nat} (h4 : T 4 ≤ 7) (hm : m < 2 ^ T 4) (h0 : m ≠ 0) {w : Nat} : ((pz T S (T 4) m).2.2 (lowB m) = -2 ∧ (w ≠ lowB m → (pz T S (T 4) m).2.2 w = (pz T S (T 4) (nWo m (2 ^ lowB m))).2.2 w)) ∨ (∃ c : Nat, (pz T S (T 4) m).2.2 (lowB m) = (c : Int) ∧ lowB m < c ∧ c < T 4 ∧ (w = c → (pz T S (T 4) m).2.2 w = (lowB m : Int)) ∧ (w ≠ lowB m → w ≠ c → (pz T S (T 4) m).2.2 w = (pz T S (T 4) (nWo (nWo m (2 ^ lowB m)) (2 ^ c))).2.2 w)) := by
  have pk := pz_pick (T := T) (S := S) (b := lowB m) (m := m) (f := pz T S (T 4)) (T 4)
  rw [← pz_low h4 hm h0] at pk
  rcases pk with ⟨-, e⟩ | ⟨-, c, c1, c2, -, e, -⟩
  · refine Or.inl ⟨?_, fun hw => ?_⟩
    · rw [e]; exact if_pos rfl
    · rw [e]; exact if_neg hw
  · have hbc := (pzE_t c2).1
    refine Or.inr ⟨c, ?_, hbc, c1, fun hw => ?_, fun hw hw2 => ?_⟩
    · rw [e]; exact if_pos rfl
    · rw [e]
      show (if w = lowB m then (c : Int) else if w = c then (lowB m : Int) else _) = _
      rw [if_neg (by omega), if_pos hw]
    · rw [e]
      show (if w = lowB m then (c : Int) else if w = c then (lowB m : Int) else _) = _
      rw [if_neg hw, if_neg hw2]
theorem s_firstPartner {h : gH} {t m : Nat} {T S : Nat → Nat} (hI : CI h t T S) (hm : m < 2 ^ T 4) (h0 : m ≠ 0) (hC : pzC h T S (fun y => nWo y m = 0)) : gSp 3 yX0_firstPartner cX0_firstPartner 7 (some .int) [.ref 135, .ref t, .ref 52, .int (zI (m : Int)), .int (zI (lowB m : Nat))] h (gR (.int (zI ((pz T S (T 4) m).2.2 (lowB m)))) h) := by
  obtain ⟨ht, hP, hT, hS, hA, hB, hN⟩ := id hI
  obtain ⟨s0, -⟩ := shT ht
  have h4 : T 4 ≤ 7 := hT.2.2.2.2.1
  obtain ⟨hm7, hb, hb1, hb2⟩ := lowB_lt h4 hm h0
  obtain ⟨k1, k2⟩ := low_key2 m hm7 h0
  have hrb : ∀ i, (nWo m (2 ^ lowB m)).testBit i = (m.testBit i && !decide (lowB m = i)) := fun i => by rw [nWo_bit, Nat.testBit_two_pow]
  have hrs := nWo_sub m (2 ^ lowB m)
  have hcr := hC _ hrs
  have hcm := hC m (nWo_z (fun _ q => q))
  have hpe := pz_le4 (S := S) hT
  have hpm := hpe m
  have hlb := tLe_le (S := S) hT hb
  have hw : h.1 t 4 = (T 4 : Int) := hA.1 4 (by omega)
  have pk := pz_pick (T := T) (S := S) (b := lowB m) (m := m) (f := pz T S (T 4)) (T 4)
  rw [← pz_low h4 hm h0] at pk
  have pk2 : ((pz T S (T 4) m).1 = tLe T S (lowB m) + (pz T S (T 4) (nWo m (2 ^ lowB m))).1 ∧ (pz T S (T 4) m).2.2 (lowB m) = -2) ∨ ((pz T S (T 4) m).1 < tLe T S (lowB m) + (pz T S (T 4) (nWo m (2 ^ lowB m))).1 ∧ ∃ c, c < T 4 ∧ pzE T S (lowB m) m c = true ∧ nD (tLe T S (lowB m)) (tLe T S c) + (pz T S (T 4) (nWo (nWo m (2 ^ lowB m)) (2 ^ c))).1 = (pz T S (T 4) m).1 ∧ (pz T S (T 4) m).2.2 (lowB m) = (c : Int) ∧ ∀ c', c' < c → pzE T S (lowB m) m c' = true → (pz T S (T 4) m).1 < nD (tLe T S (lowB m)) (tLe T S c') + (pz T S (T 4) (nWo (nWo m (2 ^ lowB m)) (2 ^ c'))).1) := by
    rcases pk with ⟨e1, e⟩ | ⟨e1, c, c1, c2, c3, e, c4⟩
    · refine Or.inl ⟨e1, ?_⟩
      rw [e]; exact if_pos rfl
    · refine Or.inr ⟨e1, c, c1, c2, c3, ?_, c4⟩
      rw [e]; exact if_pos rfl
  clear pk
  refine gSp_of (by decide +kernel) (Nat.le_of_ble_eq_true rfl) ?_
  show gJ RX0 cX0_firstPartner 7 (some .int) _ 0 [some (.ref 135), some (.ref t), some (.ref 52), some (.int (zI (m : Int))), some (.int (zI (lowB m : Nat))), none, none] [] _ _
  refine gj_iload_n (pc' := 1) dX0_firstPartner_0 rfl rfl ?_
  refine gj_iload_n (pc' := 2) dX0_firstPartner_1 rfl rfl ?_
  refine gj_iconst (pc' := 3) dX0_firstPartner_2 rfl ?_
  refine gj_isub (pc' := 4) dX0_firstPartner_3 rfl ?_
  rw [show (m : Int) - 1 = ((m - 1 : Nat) : Int) by omega]
  refine gj_iand (pc' := 5) dX0_firstPartner_4 rfl ?_
  rw [bt_and (by omega) (by omega), k1]
  generalize nWo m (2 ^ lowB m) = r at k1 k2 hrb hrs hcr pk2
  generalize lowB m = b at hb hb1 hb2 hrb hlb pk2 ⊢
  generalize pz T S (T 4) m = X at hcm hpm pk2 ⊢
  have hpr := hpe r
  refine gj_istore (pc' := 7) dX0_firstPartner_5 rfl (by decide) ?_
  refine gj_aload_n (pc' := 8) dX0_firstPartner_7 rfl rfl ?_
  refine gj_aload_n (pc' := 9) dX0_firstPartner_8 rfl rfl ?_
  refine gj_iload (pc' := 11) dX0_firstPartner_9 rfl rfl ?_
  refine gr_X0_46 (pc' := 14) dX0_firstPartner_11 rfl (s_lacking hI hb) rfl (by first | rfl | assumption) (by decide) rfl (Nat.le_of_ble_eq_true rfl) ?_
  refine gj_aload_n (pc' := 15) dX0_firstPartner_14 rfl rfl ?_
  refine gf_X0_13 (pc' := 18) dX0_firstPartner_15 rfl (by first | rfl | assumption) rfl ?_
  refine gj_iload (pc' := 20) dX0_firstPartner_18 rfl rfl ?_
  refine gj_iald (pc' := 21) (j := r) (by first | rfl | assumption) (by omega) (by omega) (by decide) dX0_firstPartner_20 rfl ?_
  rw [hcr.1]
  refine gj_iadd (pc' := 22) dX0_firstPartner_21 rfl ?_
  refine gj_aload_n (pc' := 23) dX0_firstPartner_22 rfl rfl ?_
  refine gf_X0_13 (pc' := 26) dX0_firstPartner_23 rfl (by first | rfl | assumption) rfl ?_
  refine gj_iload_n (pc' := 27) dX0_firstPartner_26 rfl rfl ?_
  refine gj_iald (pc' := 28) (j := m) (by first | rfl | assumption) (by omega) (by omega) (by decide) dX0_firstPartner_27 rfl ?_
  rw [hcm.1]
  refine gj_icmp_ne (pc' := 31) (tgt := 34) dX0_firstPartner_28 (by decide) rfl (by omega) (fun c28 => ?_) (fun c28 => ?_)
  · refine gj_iload (pc' := 36) dX0_firstPartner_34 rfl rfl ?_
    refine gj_iconst (pc' := 37) dX0_firstPartner_36 rfl ?_
    refine gj_iadd (pc' := 38) dX0_firstPartner_37 rfl ?_
    refine gj_istore (pc' := 40) dX0_firstPartner_38 rfl (by decide) ?_
    refine gJ_wk (gJ_fH0 (L := fun c  => [some (.ref 135), some (.ref t), some (.ref 52), some (.int (zI (m : Int))), some (.int (zI (b : Int))), some (.int (zI (r : Int))), some (.int (zI (c : Int)))]) (I := fun c  hp => b < c ∧ hp = h ∧ ∀ c', c' < c → pzE T S b m c' = true → ¬ nD (tLe T S b) (tLe T S c') + (pz T S (T 4) (nWo r (2 ^ c'))).1 = X.1) (T 4) (fun c  hp hb_c iv_c ih_c => ?step_1) (b + 1) (by omega)  _ ?iv0_1) ?ll0_1
    case ll0_1 =>
      repeat' (first | exact True.intro | with_reducible exact rfl | refine And.intro ?_ ?_ | refine vI ?_ | refine vL ?_)
      all_goals first | rfl | omega
    case iv0_1 =>
      refine ⟨by omega, rfl, fun c' hc' z => ?_⟩
      have := (pzE_t z).1
      omega
    obtain ⟨i1, rfl, i3⟩ := iv_c
    have hE : pzE T S b m c = (r.testBit c && sPair T S b c) := by
      unfold pzE
      rw [hrb c, decide_eq_true i1, decide_eq_false (show ¬ b = c by omega)]
      simp
    have hoe : nWo r (2 ^ c) ≤ r ∧ nWo (nWo r (2 ^ c)) m = 0 := ⟨nWo_le r _, nWo_tr (nWo_sub r _) hrs⟩
    have hco := hC (nWo r (2 ^ c)) hoe.2
    have hpo := hpe (nWo r (2 ^ c))
    have hc128 : 2 ^ c ≤ 128 := Nat.pow_le_pow_right (n := 2) (by omega) (show c ≤ 7 by omega)
    refine gj_iload (pc' := 42) dX0_firstPartner_40 rfl rfl ?_
    refine gj_aload_n (pc' := 43) dX0_firstPartner_42 rfl rfl ?_
    refine gf_X0_20 (pc' := 46) dX0_firstPartner_43 rfl (by first | rfl | assumption) rfl ?_
    rw [hw]
    refine gj_icmp_ge (pc' := 49) (tgt := 113) dX0_firstPartner_46 (by decide) rfl (by omega) (fun c46 => ?_) (fun c46 => ?_)
    · refine gj_bipush (pc' := 115) dX0_firstPartner_113 rfl (by decide) ?_
      refine gj_iret rfl dX0_firstPartner_115 ?_
      rcases pk2 with ⟨e1, _⟩ | ⟨_, c0, a1, a2, a3, a4, a5⟩
      · exfalso; omega
      · exact absurd a3 (i3 c0 (by omega) a2)
    · refine gj_iload (pc' := 51) dX0_firstPartner_49 rfl rfl ?_
      refine gj_iload (pc' := 53) dX0_firstPartner_51 rfl rfl ?_
      refine gj_ishr (pc' := 54) dX0_firstPartner_53 rfl ?_
      refine gj_iconst (pc' := 55) dX0_firstPartner_54 rfl ?_
      refine gj_iand (pc' := 56) dX0_firstPartner_55 rfl ?_
      rw [bt_bit (by omega) (by omega)]
      first | refine gj_ifB_eq (pc' := 59) (tgt := 107) dX0_firstPartner_56 (by decide) rfl (fun c56 => ?_) (fun c56 => ?_) | refine gj_if_eq (pc' := 59) (tgt := 107) dX0_firstPartner_56 (by decide) rfl (by omega) (fun c56 => ?_) (fun c56 => ?_)
      · refine gj_iinc (pc' := 110) dX0_firstPartner_107 rfl rfl (by decide) ?_
        refine gj_goto (pc' := 40) dX0_firstPartner_110 (by decide) ?_
        refine gJ_wk (ih_c  _ (by omega) ?iv_2) ?ll_2
        case ll_2 =>
          repeat' (first | exact True.intro | with_reducible exact rfl | refine And.intro ?_ ?_ | refine vI ?_ | refine vL ?_)
          all_goals omega
        refine ⟨by omega, rfl, fun c' hc' z => ?_⟩
        by_cases q : c' = c
        · rw [q] at z ⊢
          rw [hE, Bool.and_eq_true] at z
          first
          | exact absurd (z.1.symm.trans c56) (by decide)
          | exact absurd (z.2.symm.trans c68) (by decide)
          | omega
        · exact i3 c' (by omega) z
      · refine gj_aload_n (pc' := 60) dX0_firstPartner_59 rfl rfl ?_
        refine gj_aload_n (pc' := 61) dX0_firstPartner_60 rfl rfl ?_
        refine gj_iload (pc' := 63) dX0_firstPartner_61 rfl rfl ?_
        refine gj_iload (pc' := 65) dX0_firstPartner_63 rfl rfl ?_
        refine gr_X0_24 (pc' := 68) dX0_firstPartner_65 rfl (s_pair hI hb (by omega)) rfl (by first | rfl | assumption) (by decide) rfl (Nat.le_of_ble_eq_true rfl) ?_
        first | refine gj_ifB_eq (pc' := 71) (tgt := 107) dX0_firstPartner_68 (by decide) rfl (fun c68 => ?_) (fun c68 => ?_) | refine gj_if_eq (pc' := 71) (tgt := 107) dX0_firstPartner_68 (by decide) rfl (by omega) (fun c68 => ?_) (fun c68 => ?_)
        · refine gj_iinc (pc' := 110) dX0_firstPartner_107 rfl rfl (by decide) ?_
          refine gj_goto (pc' := 40) dX0_firstPartner_110 (by decide) ?_
          refine gJ_wk (ih_c  _ (by omega) ?iv_3) ?ll_3
          case ll_3 =>
            repeat' (first | exact True.intro | with_reducible exact rfl | refine And.intro ?_ ?_ | refine vI ?_ | refine vL ?_)
            all_goals omega
          refine ⟨by omega, rfl, fun c' hc' z => ?_⟩
          by_cases q : c' = c
          · rw [q] at z ⊢
            rw [hE, Bool.and_eq_true] at z
            first
            | exact absurd (z.1.symm.trans c56) (by decide)
            | exact absurd (z.2.symm.trans c68) (by decide)
            | omega
          · exact i3 c' (by omega) z
        · have hlc := tLe_le (S := S) hT (b := c) (by omega)
          have hnd := nD_le hlb hlc
          refine gj_aload_n (pc' := 72) dX0_firstPartner_71 rfl rfl ?_
          refine gj_aload_n (pc' := 73) dX0_firstPartner_72 rfl rfl ?_
          refine gj_iload (pc' := 75) dX0_firstPartner_73 rfl rfl ?_
          refine gj_iload (pc' := 77) dX0_firstPartner_75 rfl rfl ?_
          refine gr_X0_50 (pc' := 80) dX0_firstPartner_77 rfl (s_pairCost hI hb (by omega)) rfl (by first | rfl | assumption) (by decide) rfl (Nat.le_of_ble_eq_true rfl) ?_
          refine gj_aload_n (pc' := 81) dX0_firstPartner_80 rfl rfl ?_
          refine gf_X0_13 (pc' := 84) dX0_firstPartner_81 rfl (by first | rfl | assumption) rfl ?_
          refine gj_iload (pc' := 86) dX0_firstPartner_84 rfl rfl ?_
          refine gj_iconst (pc' := 87) dX0_firstPartner_86 rfl ?_
          refine gj_iload (pc' := 89) dX0_firstPartner_87 rfl rfl ?_
          refine gj_ishl (pc' := 90) dX0_firstPartner_89 rfl ?_
          rw [bt_shl1 (by omega)]
          refine gj_iconst (pc' := 91) dX0_firstPartner_90 rfl ?_
          refine gj_ixor (pc' := 92) dX0_firstPartner_91 rfl ?_
          refine gj_iand (pc' := 93) dX0_firstPartner_92 rfl ?_
          rw [bt_wo (by omega) (by omega)]
          refine gj_iald (pc' := 94) (j := nWo r (2 ^ c)) (by first | rfl | assumption) (by omega) (by omega) (by decide) dX0_firstPartner_93 rfl ?_
          rw [hco.1]
          refine gj_iadd (pc' := 95) dX0_firstPartner_94 rfl ?_
          refine gj_aload_n (pc' := 96) dX0_firstPartner_95 rfl rfl ?_
          refine gf_X0_13 (pc' := 99) dX0_firstPartner_96 rfl (by first | rfl | assumption) rfl ?_
          refine gj_iload_n (pc' := 100) dX0_firstPartner_99 rfl rfl ?_
          refine gj_iald (pc' := 101) (j := m) (by first | rfl | assumption) (by omega) (by omega) (by decide) dX0_firstPartner_100 rfl ?_
          rw [hcm.1]
          refine gj_icmp_ne (pc' := 104) (tgt := 107) dX0_firstPartner_101 (by decide) rfl (by omega) (fun c101 => ?_) (fun c101 => ?_)
          · refine gj_iinc (pc' := 110) dX0_firstPartner_107 rfl rfl (by decide) ?_
            refine gj_goto (pc' := 40) dX0_firstPartner_110 (by decide) ?_
            refine gJ_wk (ih_c  _ (by omega) ?iv_4) ?ll_4
            case ll_4 =>
              repeat' (first | exact True.intro | with_reducible exact rfl | refine And.intro ?_ ?_ | refine vI ?_ | refine vL ?_)
              all_goals omega
            refine ⟨by omega, rfl, fun c' hc' z => ?_⟩
            by_cases q : c' = c
            · rw [q] at z ⊢
              rw [hE, Bool.and_eq_true] at z
              first
              | exact absurd (z.1.symm.trans c56) (by decide)
              | exact absurd (z.2.symm.trans c68) (by decide)
              | omega
            · exact i3 c' (by omega) z
          · refine gj_iload (pc' := 106) dX0_firstPartner_104 rfl rfl ?_
            refine gj_iret rfl dX0_firstPartner_106 ?_
            have z : pzE T S b m c = true := by rw [hE, c56, c68]; rfl
            rcases pk2 with ⟨e1, _⟩ | ⟨_, c0, a1, a2, a3, a4, a5⟩
            · exfalso; omega
            · rcases Nat.lt_trichotomy c c0 with q | q | q
              · exfalso
                have := a5 c q z
                omega
              · rw [← q] at a4
                exact gR_i a4.symm
              · exact absurd a3 (i3 c0 q a2)
  · refine gj_bipush (pc' := 33) dX0_firstPartner_31 rfl (by decide) ?_
    refine gj_iret rfl dX0_firstPartner_33 ?_
    rcases pk2 with ⟨_, e⟩ | ⟨lt, _⟩
    · exact gR_i e.symm
    · exfalso; omega
def pMate (T S : Nat → Nat) (w : Nat) : Int := if sGone S w = true then -2 else (pz T S (T 4) (nPr T S)).2.2 w
theorem s_partnerOf {h : gH} {t w : Nat} {T S : Nat → Nat} (hI : CI h t T S) (hw : w < T 4) : gSp 5 yX0_partnerOf cX0_partnerOf 8 (some .int) [.ref 135, .ref t, .ref 52, .int (zI (w : Int))] h (fun v h' => v = some (.int (zI (pMate T S w))) ∧ h'.2 = h.2 ∧ (∀ o, o ≠ 136 → o ≠ 137 → h'.1 o = h.1 o)) := by
  obtain ⟨ht, hP, hT, hS, hA, hB, hN⟩ := id hI
  have htt : t = 6 ∨ t = 29 := ht
  have h4 : T 4 ≤ 7 := hT.2.2.2.2.1
  have hl : nPr T S < 128 := nPr_lt (S := S) hT
  have hl2 := nPr_lt2 (T := T) (S := S)
  refine gSp_of (by decide +kernel) (Nat.le_of_ble_eq_true rfl) ?_
  show gJ RX0 cX0_partnerOf 8 (some .int) _ 0 [some (.ref 135), some (.ref t), some (.ref 52), some (.int (zI (w : Int))), none, none, none, none] [] _ _
  refine gj_aload_n (pc' := 1) dX0_partnerOf_0 rfl rfl ?_
  refine gj_iload_n (pc' := 2) dX0_partnerOf_1 rfl rfl ?_
  refine gr_X0_54 (pc' := 5) dX0_partnerOf_2 rfl (s_isGone hI (by omega)) rfl (by first | rfl | assumption) (by decide) rfl (Nat.le_of_ble_eq_true rfl) ?_
  first | refine gj_ifB_eq (pc' := 8) (tgt := 11) dX0_partnerOf_5 (by decide) rfl (fun c5 => ?_) (fun c5 => ?_) | refine gj_if_eq (pc' := 8) (tgt := 11) dX0_partnerOf_5 (by decide) rfl (by omega) (fun c5 => ?_) (fun c5 => ?_)
  · refine gj_aload_n (pc' := 12) dX0_partnerOf_11 rfl rfl ?_
    refine gj_aload_n (pc' := 13) dX0_partnerOf_12 rfl rfl ?_
    refine gj_aload_n (pc' := 14) dX0_partnerOf_13 rfl rfl ?_
    refine gc_X0_30 (pc' := 17) dX0_partnerOf_14 rfl (s_weighSets hI) rfl (by first | rfl | assumption) (by decide) rfl (Nat.le_of_ble_eq_true rfl) (fun v9 h9 q9 => ?_)
    obtain ⟨rfl, i1, i2, i3⟩ := q9
    obtain ⟨hd, rfl⟩ : ∃ x, x = h9 := ⟨h9, rfl⟩
    have hI2 : CI hd t T S := hI.to2 i1 (fun o o1 o2 => i2 o (by omega) (by omega)) (fun o o1 o2 => i2 o (by omega) (by omega))
    have hwb : (nPr T S).testBit w = true := by
      unfold nPr
      rw [nPr_bit hw, c5]
      rfl
    have hpm : pMate T S w = (pz T S (T 4) (nPr T S)).2.2 w := by unfold pMate; rw [if_neg (by rw [c5]; decide)]
    have hzz : nWo (nPr T S) (nPr T S) = 0 := nWo_z (fun _ q => q)
    show gJ _ _ _ _ _ _ _ [] _ _
    refine gj_aload_n (pc' := 18) dX0_partnerOf_17 rfl rfl ?_
    refine gj_aload_n (pc' := 19) dX0_partnerOf_18 rfl rfl ?_
    refine gr_X0_34 (pc' := 22) dX0_partnerOf_19 rfl (s_present hI2) rfl (by first | rfl | assumption) (by decide) rfl (Nat.le_of_ble_eq_true rfl) ?_
    rw [show nWo (2 ^ T 4 - 1) (S 19) = nPr T S from rfl]
    generalize nPr T S = am at hl hl2 hwb hpm hzz i3 ⊢
    refine gj_istore (pc' := 24) dX0_partnerOf_22 rfl (by decide) ?_
    refine gj_iconst (pc' := 25) dX0_partnerOf_24 rfl ?_
    refine gj_istore (pc' := 27) dX0_partnerOf_25 rfl (by decide) ?_
    refine gJ_wk (gJ_fH1 (L := fun i x => [some (.ref 135), some (.ref t), some (.ref 52), some (.int (zI (w : Int))), some (.int (zI x)), some (.int (zI (i : Int))), none, none]) (I := fun i x hp => hp = hd ∧ ∃ m : Nat, x = (m : Int) ∧ m < 2 ^ T 4 ∧ nWo m am = 0 ∧ m.testBit w = true ∧ (pz T S (T 4) m).2.2 w = (pz T S (T 4) am).2.2 w ∧ ∀ k, k < i → m.testBit k = false) (7) (fun i x hp hb_i iv_i ih_i => ?step_1) (0) (Nat.zero_le _) ?x0_1 _ ?iv0_1) ?ll0_1
    case ll0_1 =>
      repeat' (first | exact True.intro | with_reducible exact rfl | refine And.intro ?_ ?_ | refine vI ?_ | refine vL ?_)
      all_goals first | rfl | omega
    case iv0_1 =>
      exact ⟨rfl, am, rfl, hl2, hzz, hwb, rfl, fun k hk => by omega⟩
    obtain ⟨rfl, m, rfl, j1, j2, j3, j4, j5⟩ := iv_i
    have h0 : m ≠ 0 := by
      intro q
      rw [q, Nat.zero_testBit] at j3
      cases j3
    obtain ⟨hm7, hb, hb1, hb2⟩ := lowB_lt h4 j1 h0
    obtain ⟨k1, k2⟩ := low_key2 m hm7 h0
    have hiw : i ≤ w := by
      rcases Nat.lt_or_ge w i with q | q
      · rw [j5 w q] at j3; cases j3
      · exact q
    have hib : i ≤ lowB m := by
      rcases Nat.lt_or_ge (lowB m) i with q | q
      · rw [j5 _ q] at hb1; cases hb1
      · exact q
    have hro := pz_row (T := T) (S := S) h4 j1 h0 (w := w)
    have hrb : ∀ i, (nWo m (2 ^ lowB m)).testBit i = (m.testBit i && !decide (lowB m = i)) := fun i => by rw [nWo_bit, Nat.testBit_two_pow]
    have hrs := nWo_sub m (2 ^ lowB m)
    refine gj_iload (pc' := 29) dX0_partnerOf_27 rfl rfl ?_
    refine gj_bipush (pc' := 31) dX0_partnerOf_29 rfl (by decide) ?_
    refine gj_icmp_ge (pc' := 34) (tgt := 107) dX0_partnerOf_31 (by decide) rfl (by omega) (fun c31 => ?_) (fun c31 => ?_)
    · exfalso; omega
    · refine gj_iload (pc' := 36) dX0_partnerOf_34 rfl rfl ?_
      refine gj_if_eq (pc' := 39) (tgt := 107) dX0_partnerOf_36 (by decide) rfl (by omega) (fun c36 => ?_) (fun c36 => ?_)
      · exfalso; omega
      · refine gj_iload (pc' := 41) dX0_partnerOf_39 rfl rfl ?_
        refine gr_X0_42 (pc' := 44) dX0_partnerOf_41 rfl (s_firstOf hm7 h0) rfl (by decide) rfl (Nat.le_of_ble_eq_true rfl) ?_
        refine gj_istore (pc' := 46) dX0_partnerOf_44 rfl (by decide) ?_
        refine gj_aload_n (pc' := 47) dX0_partnerOf_46 rfl rfl ?_
        refine gj_aload_n (pc' := 48) dX0_partnerOf_47 rfl rfl ?_
        refine gj_aload_n (pc' := 49) dX0_partnerOf_48 rfl rfl ?_
        refine gj_iload (pc' := 51) dX0_partnerOf_49 rfl rfl ?_
        refine gj_iload (pc' := 53) dX0_partnerOf_51 rfl rfl ?_
        refine gr_X0_58 (pc' := 56) dX0_partnerOf_53 rfl (s_firstPartner hI2 j1 h0 (fun y hy => i3 y (nWo_tr hy j2))) rfl (by first | rfl | assumption) (by decide) rfl (Nat.le_of_ble_eq_true rfl) ?_
        generalize hRR : (pz T S (T 4) m).2.2 (lowB m) = R at hro
        have hR7 : R = -2 ∨ (0 ≤ R ∧ R < 7) := by
          rcases hro with ⟨e, _⟩ | ⟨c, e, _, c1, _⟩ <;> omega
        refine gj_istore (pc' := 58) dX0_partnerOf_56 rfl (by decide) ?_
        refine gj_iload (pc' := 60) dX0_partnerOf_58 rfl rfl ?_
        refine gj_iload_n (pc' := 61) dX0_partnerOf_60 rfl rfl ?_
        refine gj_icmp_ne (pc' := 64) (tgt := 67) dX0_partnerOf_61 (by decide) rfl (by omega) (fun c61 => ?_) (fun c61 => ?_)
        · refine gj_iload (pc' := 69) dX0_partnerOf_67 rfl rfl ?_
          refine gj_iload_n (pc' := 70) dX0_partnerOf_69 rfl rfl ?_
          refine gj_icmp_ne (pc' := 73) (tgt := 76) dX0_partnerOf_70 (by decide) rfl (by omega) (fun c70 => ?_) (fun c70 => ?_)
          · refine gj_iload (pc' := 78) dX0_partnerOf_76 rfl rfl ?_
            refine gj_iload (pc' := 80) dX0_partnerOf_78 rfl rfl ?_
            refine gj_iconst (pc' := 81) dX0_partnerOf_80 rfl ?_
            refine gj_isub (pc' := 82) dX0_partnerOf_81 rfl ?_
            rw [show (m : Int) - 1 = ((m - 1 : Nat) : Int) by omega]
            refine gj_iand (pc' := 83) dX0_partnerOf_82 rfl ?_
            rw [bt_and (by omega) (by omega), k1]
            refine gj_istore (pc' := 85) dX0_partnerOf_83 rfl (by decide) ?_
            refine gj_iload (pc' := 87) dX0_partnerOf_85 rfl rfl ?_
            refine gj_if_lt (pc' := 90) (tgt := 101) dX0_partnerOf_87 (by decide) rfl (by omega) (fun c87 => ?_) (fun c87 => ?_)
            · refine gj_iinc (pc' := 104) dX0_partnerOf_101 rfl rfl (by decide) ?_
              refine gj_goto (pc' := 27) dX0_partnerOf_104 (by decide) ?_
              refine gJ_wk (ih_i ?x_2 _ (by omega) ?iv_2) ?ll_2
              case ll_2 =>
                repeat' (first | exact True.intro | with_reducible exact rfl | refine And.intro ?_ ?_ | refine vI ?_ | refine vL ?_)
                all_goals omega
              have hwl : w ≠ lowB m := by clear hro; omega
              have hrw : (nWo m (2 ^ lowB m)).testBit w = true := by
                rw [hrb, j3, decide_eq_false (fun q => hwl q.symm)]
                rfl
              have hrk : ∀ k, k < i + 1 → (nWo m (2 ^ lowB m)).testBit k = false := fun k hk => by
                rw [hrb]
                by_cases q : k < lowB m
                · rw [hb2 k q]; rfl
                · rw [decide_eq_true (show lowB m = k by omega)]; simp
              rcases hro with ⟨e, e1⟩ | ⟨c, e, e1, e2, e3, e4⟩
              · first
                | (exfalso; omega)
                | exact ⟨rfl, _, rfl, by omega, nWo_tr hrs j2, hrw, (e1 hwl).symm.trans j4, hrk⟩
              · first
                | (exfalso; omega)
                | (obtain rfl : n = c := by omega
                   have hwn : w ≠ n := by omega
                   refine ⟨rfl, _, rfl, ?_, nWo_tr (nWo_sub _ _) (nWo_tr hrs j2), ?_, (e4 hwl hwn).symm.trans j4, fun k hk => ?_⟩
                   · have := nWo_le (nWo m (2 ^ lowB m)) (2 ^ n)
                     omega
                   · rw [nWo_bit, hrw, Nat.testBit_two_pow, decide_eq_false (fun q => hwn q.symm)]
                     rfl
                   · rw [nWo_bit, hrk k hk]
                     rfl)
            · obtain ⟨n, rfl⟩ : ∃ n : Nat, R = (n : Int) := ⟨R.toNat, by omega⟩
              have hc128 : 2 ^ n ≤ 128 := Nat.pow_le_pow_right (n := 2) (by omega) (show n ≤ 7 by omega)
              refine gj_iload (pc' := 92) dX0_partnerOf_90 rfl rfl ?_
              refine gj_iconst (pc' := 93) dX0_partnerOf_92 rfl ?_
              refine gj_iload (pc' := 95) dX0_partnerOf_93 rfl rfl ?_
              refine gj_ishl (pc' := 96) dX0_partnerOf_95 rfl ?_
              rw [bt_shl1 (by omega)]
              refine gj_iconst (pc' := 97) dX0_partnerOf_96 rfl ?_
              refine gj_ixor (pc' := 98) dX0_partnerOf_97 rfl ?_
              refine gj_iand (pc' := 99) dX0_partnerOf_98 rfl ?_
              rw [bt_wo (by omega) (by omega)]
              refine gj_istore (pc' := 101) dX0_partnerOf_99 rfl (by decide) ?_
              refine gj_iinc (pc' := 104) dX0_partnerOf_101 rfl rfl (by decide) ?_
              refine gj_goto (pc' := 27) dX0_partnerOf_104 (by decide) ?_
              refine gJ_wk (ih_i ?x_3 _ (by omega) ?iv_3) ?ll_3
              case ll_3 =>
                repeat' (first | exact True.intro | with_reducible exact rfl | refine And.intro ?_ ?_ | refine vI ?_ | refine vL ?_)
                all_goals omega
              have hwl : w ≠ lowB m := by clear hro; omega
              have hrw : (nWo m (2 ^ lowB m)).testBit w = true := by
                rw [hrb, j3, decide_eq_false (fun q => hwl q.symm)]
                rfl
              have hrk : ∀ k, k < i + 1 → (nWo m (2 ^ lowB m)).testBit k = false := fun k hk => by
                rw [hrb]
                by_cases q : k < lowB m
                · rw [hb2 k q]; rfl
                · rw [decide_eq_true (show lowB m = k by omega)]; simp
              rcases hro with ⟨e, e1⟩ | ⟨c, e, e1, e2, e3, e4⟩
              · first
                | (exfalso; omega)
                | exact ⟨rfl, _, rfl, by omega, nWo_tr hrs j2, hrw, (e1 hwl).symm.trans j4, hrk⟩
              · first
                | (exfalso; omega)
                | (obtain rfl : n = c := by omega
                   have hwn : w ≠ n := by omega
                   refine ⟨rfl, _, rfl, ?_, nWo_tr (nWo_sub _ _) (nWo_tr hrs j2), ?_, (e4 hwl hwn).symm.trans j4, fun k hk => ?_⟩
                   · have := nWo_le (nWo m (2 ^ lowB m)) (2 ^ n)
                     omega
                   · rw [nWo_bit, hrw, Nat.testBit_two_pow, decide_eq_false (fun q => hwn q.symm)]
                     rfl
                   · rw [nWo_bit, hrk k hk]
                     rfl)
          · refine gj_iload (pc' := 75) dX0_partnerOf_73 rfl rfl ?_
            refine gj_iret rfl dX0_partnerOf_75 ?_
            refine ⟨?_, i1, i2⟩
            rw [hpm, ← j4]
            rcases hro with ⟨e, _⟩ | ⟨c, e, e1, c1, e2, _⟩
            · exfalso; omega
            · rw [e2 (by omega)]
        · refine gj_iload (pc' := 66) dX0_partnerOf_64 rfl rfl ?_
          refine gj_iret rfl dX0_partnerOf_66 ?_
          refine ⟨?_, i1, i2⟩
          rw [hpm, ← j4, show w = lowB m by omega, hRR]
  · refine gj_bipush (pc' := 10) dX0_partnerOf_8 rfl (by decide) ?_
    refine gj_iret rfl dX0_partnerOf_10 ?_
    exact ⟨by unfold pMate; rw [if_pos c5], rfl, fun _ _ _ => rfl⟩
