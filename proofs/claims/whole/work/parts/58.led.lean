/-! led, where there is such a bird; the model's led; acts without a town -/
def gcN (S : Nat → Nat) (n : Nat) : Nat := sN (fun b => (sGone S b).toNat) n
def ldP (S : Nat → Nat) (a : Int) (b : Nat) : Bool := sGone S b && decide ((gcN S b : Int) = a)
def ldF (T S : Nat → Nat) (a : Int) : Int := fstN (ldP S a) (T 4)
theorem gcN_le (S : Nat → Nat) (n : Nat) : gcN S n ≤ n := by
  have := sN_le (f := fun b => (sGone S b).toNat) (c := 1) (n := n) (fun i _ => Bool.toNat_le _)
  unfold gcN
  omega
theorem ldF_0 {T S : Nat → Nat} {a : Int} (h : T 4 = 0) : ldF T S a = -2 := by
  unfold ldF
  rw [h]
  rfl
theorem x_led {h : gH} {t : Nat} {T S : Nat → Nat} {a : Int} (hQ : XQ h t T S) (ha : inB a) (hne : ldF T S a ≠ -2) : gSp 12 yX10_led cX10_led 4 (some .int) [.ref 0, .int (zI a)] h (gR (.int (zI (ldF T S a))) h) := by
  have h40 : T 4 ≠ 0 := fun q => hne (ldF_0 q)
  have hI := hQ.ci (by omega)
  obtain ⟨ht, hP, hT, hS, hA, hB, hN⟩ := id hI
  obtain ⟨s0, -⟩ := shT ht
  have h4 : T 4 ≤ 7 := hT.2.2.2.2.1
  unfold inB at ha
  refine gSp_of (by decide +kernel) (Nat.le_of_ble_eq_true rfl) ?_
  show gJ RX10 cX10_led 4 (some .int) _ 0 [some (.ref 0), some (.int (zI a)), none, none] [] _ _
  refine gj_iconst (pc' := 1) dX10_led_0 rfl ?_
  refine gj_istore_n (pc' := 2) dX10_led_1 rfl (by decide) ?_
  refine gj_iconst (pc' := 3) dX10_led_2 rfl ?_
  refine gj_istore_n (pc' := 4) dX10_led_3 rfl (by decide) ?_
  refine gJ_wk (gJ_fH1 (L := fun b x => [some (.ref 0), some (.int (zI a)), some (.int (zI x)), some (.int (zI (b : Int)))]) (I := fun b x hp => hp = h ∧ x = (gcN S b : Int) ∧ fstN (ldP S a) b = -2) (T 4) (fun b x hp hb_b iv_b ih_b => ?step_1) (0) (Nat.zero_le _) ?x0_1 _ ?iv0_1) ?ll0_1
  case ll0_1 =>
    repeat' (first | exact True.intro | with_reducible exact rfl | refine And.intro ?_ ?_ | refine vI ?_ | refine vL ?_)
    all_goals first | rfl | omega
  case iv0_1 =>
    exact ⟨rfl, rfl, rfl⟩
  obtain ⟨rfl, rfl, i2⟩ := iv_b
  have hbl : b < T 4 := by
    rcases Nat.lt_or_ge b (T 4) with q | q
    · exact q
    · exact absurd (show ldF T S a = -2 by unfold ldF; rw [show T 4 = b by omega]; exact i2) hne
  have es := fstN_s (ldP S a) b
  have eg : gcN S (b + 1) = gcN S b + (sGone S b).toNat := rfl
  have hgl := gcN_le S b
  have bt1 : true.toNat = 1 := rfl
  have bt0 : false.toNat = 0 := rfl
  refine gj_iload_n (pc' := 5) dX10_led_4 rfl rfl ?_
  refine gj_aload_n (pc' := 6) dX10_led_5 rfl rfl ?_
  refine gf_X10_54 (pc' := 9) dX10_led_6 rfl (by first | rfl | assumption) rfl ?_
  rw [hP]
  refine gf_X10_371 (pc' := 12) dX10_led_9 rfl (by first | rfl | assumption) rfl ?_
  rw [hA.1 4 (by omega)]
  refine gj_icmp_ge (pc' := 15) (tgt := 42) dX10_led_12 (by decide) rfl (by omega) (fun c12 => ?_) (fun c12 => ?_)
  · exfalso; omega
  · refine gj_aload_n (pc' := 16) dX10_led_15 rfl rfl ?_
    refine gf_X10_19 (pc' := 19) dX10_led_16 rfl (by first | rfl | assumption) rfl ?_
    refine gj_iload_n (pc' := 20) dX10_led_19 rfl rfl ?_
    refine gr_X10_374 (pc' := 23) dX10_led_20 rfl (s_isGone hI (by omega)) rfl (by first | rfl | assumption) (by decide) rfl (Nat.le_of_ble_eq_true rfl) ?_
    first | refine gj_ifB_eq (pc' := 26) (tgt := 36) dX10_led_23 (by decide) rfl (fun c23 => ?_) (fun c23 => ?_) | refine gj_if_eq (pc' := 26) (tgt := 36) dX10_led_23 (by decide) rfl (by omega) (fun c23 => ?_) (fun c23 => ?_)
    · refine gj_iinc (pc' := 39) dX10_led_36 rfl rfl (by decide) ?_
      refine gj_goto (pc' := 4) dX10_led_39 (by decide) ?_
      refine gJ_wk (ih_b ?x_2 _ (by omega) ?iv_2) ?ll_2
      case ll_2 =>
        repeat' (first | exact True.intro | with_reducible exact rfl | refine And.intro ?_ ?_ | refine vI ?_ | refine vL ?_)
        all_goals omega
      refine ⟨rfl, ?_, es.trans ?_⟩
      · rw [eg, c23]; omega
      · rw [if_neg]
        · exact i2
        · intro z
          have z2 := z.2
          unfold ldP at z2
          rw [Bool.and_eq_true, decide_eq_true_eq] at z2
          first
          | exact absurd (z2.1.symm.trans c23) (by decide)
          | omega
    · refine gj_iload_n (pc' := 27) dX10_led_26 rfl rfl ?_
      refine gj_iload_n (pc' := 28) dX10_led_27 rfl rfl ?_
      refine gj_icmp_ne (pc' := 31) (tgt := 33) dX10_led_28 (by decide) rfl (by omega) (fun c28 => ?_) (fun c28 => ?_)
      · refine gj_iinc (pc' := 36) dX10_led_33 rfl rfl (by decide) ?_
        refine gj_iinc (pc' := 39) dX10_led_36 rfl rfl (by decide) ?_
        refine gj_goto (pc' := 4) dX10_led_39 (by decide) ?_
        refine gJ_wk (ih_b ?x_3 _ (by omega) ?iv_3) ?ll_3
        case ll_3 =>
          repeat' (first | exact True.intro | with_reducible exact rfl | refine And.intro ?_ ?_ | refine vI ?_ | refine vL ?_)
          all_goals omega
        refine ⟨rfl, ?_, es.trans ?_⟩
        · rw [eg, c23]; omega
        · rw [if_neg]
          · exact i2
          · intro z
            have z2 := z.2
            unfold ldP at z2
            rw [Bool.and_eq_true, decide_eq_true_eq] at z2
            first
            | exact absurd (z2.1.symm.trans c23) (by decide)
            | omega
      · refine gj_iload_n (pc' := 32) dX10_led_31 rfl rfl ?_
        refine gj_iret rfl dX10_led_32 ?_
        have hit : ldP S a b = true := by
          unfold ldP
          rw [c23, decide_eq_true (by omega)]
          rfl
        exact gR_i (by unfold ldF; rw [fstN_hit i2 hit hbl])
theorem m_led {h : gH} {T S : Nat → Nat} {a : Int} (hQ : mQ h T S) (ha : inB a) : gSp 12 yX11_led cX11_led 4 (some .int) [.ref 142, .int (zI a)] h (fun v h' => v = some (.int (zI (if ldF T S a = -2 then 0 else ldF T S a))) ∧ h' = gui h 142 0 (if ldF T S a = -2 then 1 else 0)) := by
  obtain ⟨hA, h14, hZ, hC⟩ := id hQ
  unfold inB at ha
  have h0 : T 3 = 0 → T 4 = 0 := by
    rcases hC with q | q
    · omega
    · have := q.1.2.2.2.1; omega
  have g19 : 0 < T 4 → S 19 < 128 := fun q => by
    rcases hC with z | z
    · omega
    · exact sv19 z.1 z.2
  refine gSp_of (by decide +kernel) (Nat.le_of_ble_eq_true rfl) ?_
  show gJ RX11 cX11_led 4 (some .int) _ 0 [some (.ref 142), some (.int (zI a)), none, none] [] _ _
  refine gj_iconst (pc' := 1) dX11_led_0 rfl ?_
  refine gj_istore_n (pc' := 2) dX11_led_1 rfl (by decide) ?_
  refine gj_iconst (pc' := 3) dX11_led_2 rfl ?_
  refine gj_istore_n (pc' := 4) dX11_led_3 rfl (by decide) ?_
  refine gJ_wk (gJ_fH1 (L := fun b x => [some (.ref 142), some (.int (zI a)), some (.int (zI x)), some (.int (zI (b : Int)))]) (I := fun b x hp => hp = h ∧ x = (gcN S b : Int) ∧ fstN (ldP S a) b = -2) (T 4) (fun b x hp hb_b iv_b ih_b => ?step_1) (0) (Nat.zero_le _) ?x0_1 _ ?iv0_1) ?ll0_1
  case ll0_1 =>
    repeat' (first | exact True.intro | with_reducible exact rfl | refine And.intro ?_ ?_ | refine vI ?_ | refine vL ?_)
    all_goals first | rfl | omega
  case iv0_1 =>
    exact ⟨rfl, rfl, rfl⟩
  obtain ⟨rfl, rfl, i2⟩ := iv_b
  have es := fstN_s (ldP S a) b
  have eg : gcN S (b + 1) = gcN S b + (sGone S b).toNat := rfl
  have hgl := gcN_le S b
  have bt1 : true.toNat = 1 := rfl
  have bt0 : false.toNat = 0 := rfl
  have hend : b = T 4 → ldF T S a = -2 := fun q => by
    unfold ldF
    rw [← q]
    exact i2
  refine gj_aload_n (pc' := 5) dX11_led_4 rfl rfl ?_
  refine gf_X11_166 (pc' := 8) dX11_led_5 rfl (by first | rfl | assumption) rfl ?_
  rw [h14]
  first | refine gj_ifB_eq (pc' := 11) (tgt := 53) dX11_led_8 (by decide) rfl (fun c8 => ?_) (fun c8 => ?_) | refine gj_if_eq (pc' := 11) (tgt := 53) dX11_led_8 (by decide) rfl (by omega) (fun c8 => ?_) (fun c8 => ?_)
  · first | have g8 := of_decide_eq_true c8 | have g8 := of_decide_eq_false c8 | skip
    refine gj_aload_n (pc' := 54) dX11_led_53 rfl rfl ?_
    refine gj_iconst (pc' := 55) dX11_led_54 rfl ?_
    refine gp_X11_53 (pc' := 58) dX11_led_55 rfl (by first | rfl | assumption) rfl ?_
    refine gj_iconst (pc' := 59) dX11_led_58 rfl ?_
    refine gj_iret rfl dX11_led_59 ?_
    have e : ldF T S a = -2 := hend (by omega)
    rw [e, if_pos rfl, if_pos rfl]
    exact ⟨rfl, rfl⟩
  · first | have g8 := of_decide_eq_true c8 | have g8 := of_decide_eq_false c8 | skip
    refine gj_iload_n (pc' := 12) dX11_led_11 rfl rfl ?_
    refine gj_aload_n (pc' := 13) dX11_led_12 rfl rfl ?_
    refine gf_X11_20 (pc' := 16) dX11_led_13 rfl (by first | rfl | assumption) rfl ?_
    refine gj_iconst (pc' := 17) dX11_led_16 rfl ?_
    refine gj_iald (pc' := 18) (j := 4) (by first | rfl | assumption) (by omega) (by omega) (by decide) dX11_led_17 rfl ?_
    rw [hA.1 4 (by decide)]
    refine gj_icmp_ge (pc' := 21) (tgt := 53) dX11_led_18 (by decide) rfl (by omega) (fun c18 => ?_) (fun c18 => ?_)
    · refine gj_aload_n (pc' := 54) dX11_led_53 rfl rfl ?_
      refine gj_iconst (pc' := 55) dX11_led_54 rfl ?_
      refine gp_X11_53 (pc' := 58) dX11_led_55 rfl (by first | rfl | assumption) rfl ?_
      refine gj_iconst (pc' := 59) dX11_led_58 rfl ?_
      refine gj_iret rfl dX11_led_59 ?_
      have e : ldF T S a = -2 := hend (by omega)
      rw [e, if_pos rfl, if_pos rfl]
      exact ⟨rfl, rfl⟩
    · refine gj_aload_n (pc' := 22) dX11_led_21 rfl rfl ?_
      refine gj_iload_n (pc' := 23) dX11_led_22 rfl rfl ?_
      refine gr_X11_262 (pc' := 26) dX11_led_23 rfl (m_isGone hA (g19 (by omega)) (by omega)) rfl (by first | rfl | assumption) (by decide) rfl (Nat.le_of_ble_eq_true rfl) ?_
      first | refine gj_ifB_ne (pc' := 29) (tgt := 32) dX11_led_26 (by decide) rfl (fun c26 => ?_) (fun c26 => ?_) | refine gj_if_ne (pc' := 29) (tgt := 32) dX11_led_26 (by decide) rfl (by omega) (fun c26 => ?_) (fun c26 => ?_)
      · first | have g26 := of_decide_eq_true c26 | have g26 := of_decide_eq_false c26 | skip
        refine gj_iload_n (pc' := 33) dX11_led_32 rfl rfl ?_
        refine gj_iload_n (pc' := 34) dX11_led_33 rfl rfl ?_
        refine gj_icmp_ne (pc' := 37) (tgt := 44) dX11_led_34 (by decide) rfl (by omega) (fun c34 => ?_) (fun c34 => ?_)
        · refine gj_iinc (pc' := 47) dX11_led_44 rfl rfl (by decide) ?_
          refine gj_iinc (pc' := 50) dX11_led_47 rfl rfl (by decide) ?_
          refine gj_goto (pc' := 4) dX11_led_50 (by decide) ?_
          refine gJ_wk (ih_b ?x_2 _ (by omega) ?iv_2) ?ll_2
          case ll_2 =>
            repeat' (first | exact True.intro | with_reducible exact rfl | refine And.intro ?_ ?_ | refine vI ?_ | refine vL ?_)
            all_goals omega
          refine ⟨rfl, ?_, es.trans ?_⟩
          · rw [eg, c26]; omega
          · rw [if_neg]
            · exact i2
            · intro z
              have z2 := z.2
              unfold ldP at z2
              rw [Bool.and_eq_true, decide_eq_true_eq] at z2
              first
              | exact absurd (z2.1.symm.trans c26) (by decide)
              | omega
        · refine gj_aload_n (pc' := 38) dX11_led_37 rfl rfl ?_
          refine gj_iconst (pc' := 39) dX11_led_38 rfl ?_
          refine gp_X11_53 (pc' := 42) dX11_led_39 rfl (by first | rfl | assumption) rfl ?_
          refine gj_iload_n (pc' := 43) dX11_led_42 rfl rfl ?_
          refine gj_iret rfl dX11_led_43 ?_
          have hit : ldP S a b = true := by
            unfold ldP
            rw [c26, decide_eq_true (by omega)]
            rfl
          have e : ldF T S a = (b : Int) := by unfold ldF; rw [fstN_hit i2 hit (by omega)]
          rw [e, if_neg (by omega), if_neg (by omega)]
          exact ⟨rfl, rfl⟩
      · first | have g26 := of_decide_eq_true c26 | have g26 := of_decide_eq_false c26 | skip
        refine gj_goto (pc' := 47) dX11_led_29 (by decide) ?_
        refine gj_iinc (pc' := 50) dX11_led_47 rfl rfl (by decide) ?_
        refine gj_goto (pc' := 4) dX11_led_50 (by decide) ?_
        refine gJ_wk (ih_b ?x_3 _ (by omega) ?iv_3) ?ll_3
        case ll_3 =>
          repeat' (first | exact True.intro | with_reducible exact rfl | refine And.intro ?_ ?_ | refine vI ?_ | refine vL ?_)
          all_goals omega
        refine ⟨rfl, ?_, es.trans ?_⟩
        · rw [eg, c26]; omega
        · rw [if_neg]
          · exact i2
          · intro z
            have z2 := z.2
            unfold ldP at z2
            rw [Bool.and_eq_true, decide_eq_true_eq] at z2
            first
            | exact absurd (z2.1.symm.trans c26) (by decide)
            | omega
-- without a town no act changes anything but TROUBLE
theorem x_day0 {h : gH} {t : Nat} {T S : Nat → Nat} (hQ : XQ h t T S) (h0 : T 3 = 0) : gSp 12 yX10_day cX10_day 1 (some .int) [.ref 0] h (qX (-1) 1 h) := by
  refine gSp_of (by decide +kernel) (Nat.le_of_ble_eq_true rfl) ?_
  show gJ RX10 cX10_day 1 (some .int) _ 0 [some (.ref 0)] [] _ _
  refine gj_aload_n (pc' := 1) dX10_day_0 rfl rfl ?_
  refine gr_X10_169 (pc' := 4) dX10_day_1 rfl (x_hasTown hQ) rfl (by first | rfl | assumption) (by decide) rfl (Nat.le_of_ble_eq_true rfl) ?_
  first | refine gj_ifB_ne (pc' := 7) (tgt := 13) dX10_day_4 (by decide) rfl (fun c4 => ?_) (fun c4 => ?_) | refine gj_if_ne (pc' := 7) (tgt := 13) dX10_day_4 (by decide) rfl (by omega) (fun c4 => ?_) (fun c4 => ?_)
  · exfalso; first | omega | (have q := of_decide_eq_true c4; omega) | (have q := of_decide_eq_false c4; omega)
  · first | have g4 := of_decide_eq_true c4 | have g4 := of_decide_eq_false c4 | skip
    refine gj_aload_n (pc' := 8) dX10_day_7 rfl rfl ?_
    refine gj_iconst (pc' := 9) dX10_day_8 rfl ?_
    refine gc_X10_72 (pc' := 12) dX10_day_9 rfl (x_refuse) rfl (by first | rfl | assumption) (by decide) rfl (Nat.le_of_ble_eq_true rfl) (fun v9 h9 q9 => ?_)
    obtain ⟨rfl, q9a, q9b⟩ := q9
    show gJ _ _ _ _ _ _ _ (.int (zI (-1)) :: _) _ _
    refine gj_iret rfl dX10_day_12 ?_
    exact ⟨rfl, q9a, q9b⟩
theorem x_image0 {h : gH} {t : Nat} {T S : Nat → Nat} (hQ : XQ h t T S) (h0 : T 3 = 0) : gSp 12 yX10_image cX10_image 2 (some .int) [.ref 0] h (qX (-1) 1 h) := by
  refine gSp_of (by decide +kernel) (Nat.le_of_ble_eq_true rfl) ?_
  show gJ RX10 cX10_image 2 (some .int) _ 0 [some (.ref 0), none] [] _ _
  refine gj_aload_n (pc' := 1) dX10_image_0 rfl rfl ?_
  refine gr_X10_169 (pc' := 4) dX10_image_1 rfl (x_hasTown hQ) rfl (by first | rfl | assumption) (by decide) rfl (Nat.le_of_ble_eq_true rfl) ?_
  first | refine gj_ifB_ne (pc' := 7) (tgt := 13) dX10_image_4 (by decide) rfl (fun c4 => ?_) (fun c4 => ?_) | refine gj_if_ne (pc' := 7) (tgt := 13) dX10_image_4 (by decide) rfl (by omega) (fun c4 => ?_) (fun c4 => ?_)
  · exfalso; first | omega | (have q := of_decide_eq_true c4; omega) | (have q := of_decide_eq_false c4; omega)
  · first | have g4 := of_decide_eq_true c4 | have g4 := of_decide_eq_false c4 | skip
    refine gj_aload_n (pc' := 8) dX10_image_7 rfl rfl ?_
    refine gj_iconst (pc' := 9) dX10_image_8 rfl ?_
    refine gc_X10_72 (pc' := 12) dX10_image_9 rfl (x_refuse) rfl (by first | rfl | assumption) (by decide) rfl (Nat.le_of_ble_eq_true rfl) (fun v9 h9 q9 => ?_)
    obtain ⟨rfl, q9a, q9b⟩ := q9
    show gJ _ _ _ _ _ _ _ (.int (zI (-1)) :: _) _ _
    refine gj_iret rfl dX10_image_12 ?_
    exact ⟨rfl, q9a, q9b⟩
theorem x_pay0 {h : gH} {t : Nat} {T S : Nat → Nat} {a c : Int} (hQ : XQ h t T S) (h0 : T 4 = 0) (ha : inB a) : gSp 12 yX10_pay cX10_pay 3 (some .int) [.ref 0, .int (zI a), .int (zI c)] h (qX (-1) 1 h) := by
  refine gSp_of (by decide +kernel) (Nat.le_of_ble_eq_true rfl) ?_
  show gJ RX10 cX10_pay 3 (some .int) _ 0 [some (.ref 0), some (.int (zI a)), some (.int (zI c))] [] _ _
  refine gj_aload_n (pc' := 1) dX10_pay_0 rfl rfl ?_
  refine gj_iload_n (pc' := 2) dX10_pay_1 rfl rfl ?_
  refine gr_X10_134 (pc' := 5) dX10_pay_2 rfl (x_isBird hQ ha) rfl (by first | rfl | assumption) (by decide) rfl (Nat.le_of_ble_eq_true rfl) ?_
  first | refine gj_ifB_ne (pc' := 8) (tgt := 14) dX10_pay_5 (by decide) rfl (fun c5 => ?_) (fun c5 => ?_) | refine gj_if_ne (pc' := 8) (tgt := 14) dX10_pay_5 (by decide) rfl (by omega) (fun c5 => ?_) (fun c5 => ?_)
  · exfalso; first | omega | (have q := of_decide_eq_true c5; omega) | (have q := of_decide_eq_false c5; omega)
  · first | have g5 := of_decide_eq_true c5 | have g5 := of_decide_eq_false c5 | skip
    refine gj_aload_n (pc' := 9) dX10_pay_8 rfl rfl ?_
    refine gj_iconst (pc' := 10) dX10_pay_9 rfl ?_
    refine gc_X10_72 (pc' := 13) dX10_pay_10 rfl (x_refuse) rfl (by first | rfl | assumption) (by decide) rfl (Nat.le_of_ble_eq_true rfl) (fun v9 h9 q9 => ?_)
    obtain ⟨rfl, q9a, q9b⟩ := q9
    show gJ _ _ _ _ _ _ _ (.int (zI (-1)) :: _) _ _
    refine gj_iret rfl dX10_pay_13 ?_
    exact ⟨rfl, q9a, q9b⟩
theorem x_meet0 {h : gH} {t : Nat} {T S : Nat → Nat} {a c : Int} (hQ : XQ h t T S) (h0 : T 4 = 0) (ha : inB a) (hc : inB c) : gSp 12 yX10_meet cX10_meet 4 (some .int) [.ref 0, .int (zI a), .int (zI c)] h (qX (-1) 1 h) := by
  refine gSp_of (by decide +kernel) (Nat.le_of_ble_eq_true rfl) ?_
  show gJ RX10 cX10_meet 4 (some .int) _ 0 [some (.ref 0), some (.int (zI a)), some (.int (zI c)), none] [] _ _
  refine gj_aload_n (pc' := 1) dX10_meet_0 rfl rfl ?_
  refine gj_iload_n (pc' := 2) dX10_meet_1 rfl rfl ?_
  refine gj_iload_n (pc' := 3) dX10_meet_2 rfl rfl ?_
  refine gr_X10_211 (pc' := 6) dX10_meet_3 rfl (x_areTwoBirds hQ ha hc) rfl (by first | rfl | assumption) (by decide) rfl (Nat.le_of_ble_eq_true rfl) ?_
  first | refine gj_ifB_ne (pc' := 9) (tgt := 15) dX10_meet_6 (by decide) rfl (fun c6 => ?_) (fun c6 => ?_) | refine gj_if_ne (pc' := 9) (tgt := 15) dX10_meet_6 (by decide) rfl (by omega) (fun c6 => ?_) (fun c6 => ?_)
  · exfalso; first | omega | (have q := of_decide_eq_true c6; omega) | (have q := of_decide_eq_false c6; omega)
  · first | have g6 := of_decide_eq_true c6 | have g6 := of_decide_eq_false c6 | skip
    refine gj_aload_n (pc' := 10) dX10_meet_9 rfl rfl ?_
    refine gj_iconst (pc' := 11) dX10_meet_10 rfl ?_
    refine gc_X10_72 (pc' := 14) dX10_meet_11 rfl (x_refuse) rfl (by first | rfl | assumption) (by decide) rfl (Nat.le_of_ble_eq_true rfl) (fun v9 h9 q9 => ?_)
    obtain ⟨rfl, q9a, q9b⟩ := q9
    show gJ _ _ _ _ _ _ _ (.int (zI (-1)) :: _) _ _
    refine gj_iret rfl dX10_meet_14 ?_
    exact ⟨rfl, q9a, q9b⟩
theorem x_undo0 {h : gH} {t : Nat} {T : Nat → Nat} {s : gSt} (hX : XST h t T s) (h0 : s.2.1.1 = 0) : gSp 12 yX10_undo cX10_undo 1 (some .boolean) [.ref 0] h (qX 0 6 h) := by
  obtain ⟨hQ, hH, hV⟩ := id hX
  obtain ⟨ht, hP, hF, hZ, -⟩ := id hQ
  refine gSp_of (by decide +kernel) (Nat.le_of_ble_eq_true rfl) ?_
  show gJ RX10 cX10_undo 1 (some .boolean) _ 0 [some (.ref 0)] [] _ _
  refine gj_aload_n (pc' := 1) dX10_undo_0 rfl rfl ?_
  refine gf_X10_26 (pc' := 4) dX10_undo_1 rfl (by first | rfl | assumption) rfl ?_
  refine gj_aload_n (pc' := 5) dX10_undo_4 rfl rfl ?_
  refine gf_X10_19 (pc' := 8) dX10_undo_5 rfl (by first | rfl | assumption) rfl ?_
  refine gc_X10_359 (pc' := 11) dX10_undo_8 rfl (s_takeBack hZ.1 hZ.2.1 hH) rfl (by first | rfl | assumption) (by decide) rfl (Nat.le_of_ble_eq_true rfl) (fun v9 h9 q9 => ?_)
  obtain ⟨rfl, k0, k1, k2, k3, k4⟩ := q9
  obtain rfl : h9 = h := k3 h0
  show gJ _ _ _ _ _ _ _ [.int (zI (bI (decide (s.2.1.1 ≠ 0))))] _ _
  first | refine gj_ifB_ne (pc' := 14) (tgt := 22) dX10_undo_11 (by decide) rfl (fun c11 => ?_) (fun c11 => ?_) | refine gj_if_ne (pc' := 14) (tgt := 22) dX10_undo_11 (by decide) rfl (by omega) (fun c11 => ?_) (fun c11 => ?_)
  · exfalso; first | omega | (have q := of_decide_eq_true c11; omega) | (have q := of_decide_eq_false c11; omega)
  · first | have g11 := of_decide_eq_true c11 | have g11 := of_decide_eq_false c11 | skip
    refine gj_aload_n (pc' := 15) dX10_undo_14 rfl rfl ?_
    refine gj_bipush (pc' := 17) dX10_undo_15 rfl (by decide) ?_
    refine gp_X10_108 (pc' := 20) dX10_undo_17 rfl (by first | rfl | assumption) rfl ?_
    refine gj_iconst (pc' := 21) dX10_undo_20 rfl ?_
    refine gj_zret rfl (by first | rfl | exact gnZ _ | assumption) dX10_undo_21 ?_
    exact ⟨rfl, XS.put _ 6, by rw [gui_s, up1_s]⟩
theorem x_back0 {h : gH} {t : Nat} {T : Nat → Nat} {s : gSt} {a : Int} (hX : XST h t T s) (ha : inB a) (h0 : s.2.2.1 = 0) : gSp 12 yX10_back cX10_back 2 (some .boolean) [.ref 0, .int (zI a)] h (qX 0 1 h) := by
  obtain ⟨hQ, hH, hV⟩ := id hX
  obtain ⟨ht, hP, hF, hZ, -⟩ := id hQ
  refine gSp_of (by decide +kernel) (Nat.le_of_ble_eq_true rfl) ?_
  show gJ RX10 cX10_back 2 (some .boolean) _ 0 [some (.ref 0), some (.int (zI a))] [] _ _
  refine gj_aload_n (pc' := 1) dX10_back_0 rfl rfl ?_
  refine gf_X10_26 (pc' := 4) dX10_back_1 rfl (by first | rfl | assumption) rfl ?_
  refine gj_aload_n (pc' := 5) dX10_back_4 rfl rfl ?_
  refine gf_X10_19 (pc' := 8) dX10_back_5 rfl (by first | rfl | assumption) rfl ?_
  refine gj_iload_n (pc' := 9) dX10_back_8 rfl rfl ?_
  refine gc_X10_367 (pc' := 12) dX10_back_9 rfl (s_restore hZ.1 hZ.2.1 ha hH) rfl (by first | rfl | assumption) (by decide) rfl (Nat.le_of_ble_eq_true rfl) (fun v9 h9 q9 => ?_)
  obtain ⟨rfl, k0, k1, k2, k3⟩ := q9
  obtain rfl : h9 = h := k2 (by omega)
  show gJ _ _ _ _ _ _ _ [.int (zI (bI (decide (0 ≤ a ∧ a < (s.2.2.1 : Int)))))] _ _
  first | refine gj_ifB_ne (pc' := 15) (tgt := 22) dX10_back_12 (by decide) rfl (fun c12 => ?_) (fun c12 => ?_) | refine gj_if_ne (pc' := 15) (tgt := 22) dX10_back_12 (by decide) rfl (by omega) (fun c12 => ?_) (fun c12 => ?_)
  · exfalso; first | omega | (have q := of_decide_eq_true c12; omega) | (have q := of_decide_eq_false c12; omega)
  · first | have g12 := of_decide_eq_true c12 | have g12 := of_decide_eq_false c12 | skip
    refine gj_aload_n (pc' := 16) dX10_back_15 rfl rfl ?_
    refine gj_iconst (pc' := 17) dX10_back_16 rfl ?_
    refine gp_X10_108 (pc' := 20) dX10_back_17 rfl (by first | rfl | assumption) rfl ?_
    refine gj_iconst (pc' := 21) dX10_back_20 rfl ?_
    refine gj_zret rfl (by first | rfl | exact gnZ _ | assumption) dX10_back_21 ?_
    exact ⟨rfl, XS.put _ 1, by rw [gui_s, up1_s]⟩
