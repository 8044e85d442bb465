/-! rings: the model -/
theorem m_didWrong {h : gH} {T S : Nat → Nat} {a o : Nat} (hM : MI h T S) (ha : a < 7) (ho : o < 7) : gSp 3 yX11_didWrong cX11_didWrong 4 (some .boolean) [.ref 142, .int (zI (a : Int)), .int (zI (o : Int))] h (gR (.int (zI (bI (wr T S a o)))) h) := by
  obtain ⟨hA, hT, hS⟩ := id hM
  have h4 : T 4 ≤ 7 := hT.2.2.2.2.1
  have h3 := hT.2.2.2.1
  have g := sv19 hT hS
  refine gSp_of (by decide +kernel) (Nat.le_of_ble_eq_true rfl) ?_
  show gJ RX11 cX11_didWrong 4 (some .boolean) _ 0 [some (.ref 142), some (.int (zI (a : Int))), some (.int (zI (o : Int))), none] [] _ _
  refine gj_iconst (pc' := 1) dX11_didWrong_0 rfl ?_
  refine gj_istore_n (pc' := 2) dX11_didWrong_1 rfl (by decide) ?_
  refine gJ_wk (gJ_fH0 (L := fun b  => [some (.ref 142), some (.int (zI (a : Int))), some (.int (zI (o : Int))), some (.int (zI (b : Int)))]) (I := fun b  hp => hp = h ∧ anyN (wrP T S a o) b = false) (T 4) (fun b  hp hb_b iv_b ih_b => ?step_1) (0) (Nat.zero_le _)  _ ?iv0_1) ?ll0_1
  case ll0_1 =>
    repeat' (first | exact True.intro | with_reducible exact rfl | refine And.intro ?_ ?_ | refine vI ?_ | refine vL ?_)
    all_goals first | rfl | omega
  case iv0_1 =>
    exact ⟨rfl, rfl⟩
  obtain ⟨rfl, i2⟩ := iv_b
  have es : anyN (wrP T S a o) (b + 1) = (anyN (wrP T S a o) b || wrP T S a o b) := rfl
  have h9 := fun q : b < T 4 => hT.2.2.2.2.2.2.2.2.1 b q
  refine gj_iload_n (pc' := 3) dX11_didWrong_2 rfl rfl ?_
  refine gj_aload_n (pc' := 4) dX11_didWrong_3 rfl rfl ?_
  refine gf_X11_20 (pc' := 7) dX11_didWrong_4 rfl (by first | rfl | assumption) rfl ?_
  refine gj_iconst (pc' := 8) dX11_didWrong_7 rfl ?_
  refine gj_iald (pc' := 9) (j := 4) (by first | rfl | assumption) (by omega) (by omega) (by decide) dX11_didWrong_8 rfl ?_
  rw [hA.1 4 (by decide)]
  refine gj_icmp_ge (pc' := 12) (tgt := 46) dX11_didWrong_9 (by decide) rfl (by omega) (fun c9 => ?_) (fun c9 => ?_)
  · refine gj_iconst (pc' := 47) dX11_didWrong_46 rfl ?_
    refine gj_zret rfl (by first | rfl | exact gnZ _ | assumption) dX11_didWrong_47 ?_
    exact gR_f (by unfold wr; rw [show T 4 = b by omega]; exact i2)
  · refine gj_aload_n (pc' := 13) dX11_didWrong_12 rfl rfl ?_
    refine gj_iload_n (pc' := 14) dX11_didWrong_13 rfl rfl ?_
    refine gr_X11_262 (pc' := 17) dX11_didWrong_14 rfl (m_isGone hA g (by omega)) rfl (by first | rfl | assumption) (by decide) rfl (Nat.le_of_ble_eq_true rfl) ?_
    first | refine gj_ifB_ne (pc' := 20) (tgt := 40) dX11_didWrong_17 (by decide) rfl (fun c17 => ?_) (fun c17 => ?_) | refine gj_if_ne (pc' := 20) (tgt := 40) dX11_didWrong_17 (by decide) rfl (by omega) (fun c17 => ?_) (fun c17 => ?_)
    · refine gj_iinc (pc' := 43) dX11_didWrong_40 rfl rfl (by decide) ?_
      refine gj_goto (pc' := 2) dX11_didWrong_43 (by decide) ?_
      refine gJ_wk (ih_b  _ (by omega) ?iv_2) ?ll_2
      case ll_2 =>
        repeat' (first | exact True.intro | with_reducible exact rfl | refine And.intro ?_ ?_ | refine vI ?_ | refine vL ?_)
        all_goals omega
      refine ⟨rfl, ?_⟩
      rw [es, i2, Bool.false_or]
      cases q : wrP T S a o b with
      | false => rfl
      | true =>
        unfold wrP at q
        simp only [Bool.and_eq_true, Bool.not_eq_true', beq_iff_eq] at q
        first
        | exact absurd (q.1.1.symm.trans c17) (by decide)
        | (exfalso; omega)
    · refine gj_aload_n (pc' := 21) dX11_didWrong_20 rfl rfl ?_
      refine gj_iload_n (pc' := 22) dX11_didWrong_21 rfl rfl ?_
      refine gr_X11_237 (pc' := 25) dX11_didWrong_22 rfl (m_forOf hA (by omega)) rfl (by first | rfl | assumption) (by decide) rfl (Nat.le_of_ble_eq_true rfl) ?_
      refine gj_iload_n (pc' := 26) dX11_didWrong_25 rfl rfl ?_
      refine gj_icmp_ne (pc' := 29) (tgt := 40) dX11_didWrong_26 (by decide) rfl (by have := h9 (by omega); omega) (fun c26 => ?_) (fun c26 => ?_)
      · refine gj_iinc (pc' := 43) dX11_didWrong_40 rfl rfl (by decide) ?_
        refine gj_goto (pc' := 2) dX11_didWrong_43 (by decide) ?_
        refine gJ_wk (ih_b  _ (by omega) ?iv_3) ?ll_3
        case ll_3 =>
          repeat' (first | exact True.intro | with_reducible exact rfl | refine And.intro ?_ ?_ | refine vI ?_ | refine vL ?_)
          all_goals omega
        refine ⟨rfl, ?_⟩
        rw [es, i2, Bool.false_or]
        cases q : wrP T S a o b with
        | false => rfl
        | true =>
          unfold wrP at q
          simp only [Bool.and_eq_true, Bool.not_eq_true', beq_iff_eq] at q
          first
          | exact absurd (q.1.1.symm.trans c17) (by decide)
          | (exfalso; omega)
      · refine gj_aload_n (pc' := 30) dX11_didWrong_29 rfl rfl ?_
        refine gj_iload_n (pc' := 31) dX11_didWrong_30 rfl rfl ?_
        refine gr_X11_243 (pc' := 34) dX11_didWrong_31 rfl (m_fromOf hA (by omega)) rfl (by first | rfl | assumption) (by decide) rfl (Nat.le_of_ble_eq_true rfl) ?_
        refine gj_iload_n (pc' := 35) dX11_didWrong_34 rfl rfl ?_
        refine gj_icmp_ne (pc' := 38) (tgt := 40) dX11_didWrong_35 (by decide) rfl (by have := h9 (by omega); omega) (fun c35 => ?_) (fun c35 => ?_)
        · refine gj_iinc (pc' := 43) dX11_didWrong_40 rfl rfl (by decide) ?_
          refine gj_goto (pc' := 2) dX11_didWrong_43 (by decide) ?_
          refine gJ_wk (ih_b  _ (by omega) ?iv_4) ?ll_4
          case ll_4 =>
            repeat' (first | exact True.intro | with_reducible exact rfl | refine And.intro ?_ ?_ | refine vI ?_ | refine vL ?_)
            all_goals omega
          refine ⟨rfl, ?_⟩
          rw [es, i2, Bool.false_or]
          cases q : wrP T S a o b with
          | false => rfl
          | true =>
            unfold wrP at q
            simp only [Bool.and_eq_true, Bool.not_eq_true', beq_iff_eq] at q
            first
            | exact absurd (q.1.1.symm.trans c17) (by decide)
            | (exfalso; omega)
        · refine gj_iconst (pc' := 39) dX11_didWrong_38 rfl ?_
          refine gj_zret rfl (by first | rfl | exact gnZ _ | assumption) dX11_didWrong_39 ?_
          have hit : wrP T S a o b = true := by
            unfold wrP
            simp only [Bool.and_eq_true, Bool.not_eq_true', beq_iff_eq]
            exact ⟨⟨c17, by omega⟩, by omega⟩
          exact gR_t (anyN_t.mpr ⟨b, by omega, hit⟩)
theorem m_doesLead {h : gH} {T S : Nat → Nat} {hh : Nat} (hM : MI h T S) (hhh : hh < T 3) : ∀ (n : Nat), n ≤ 6 → ∀ (a : Nat), a < T 3 → gSp (4 + n) yX11_doesLead cX11_doesLead 5 (some .boolean) [.ref 142, .int (zI (a : Int)), .int (zI (hh : Int)), .int (zI (n : Int))] h (gR (.int (zI (bI (wk (wr T S) (T 3) hh n a)))) h) := by
  obtain ⟨hA, hT, hS⟩ := id hM
  have h3 := hT.2.2.2.1
  intro n
  induction n with
  | zero =>
    intro hn a ha
    refine gSp_of (by decide +kernel) (Nat.le_of_ble_eq_true rfl) ?_
    show gJ RX11 cX11_doesLead 5 (some .boolean) _ 0 [some (.ref 142), some (.int (zI (a : Int))), some (.int (zI (hh : Int))), some (.int (zI ((0 : Nat) : Int))), none] [] _ _
    refine gj_iload_n (pc' := 1) dX11_doesLead_0 rfl rfl ?_
    refine gj_if_ne (pc' := 4) (tgt := 15) dX11_doesLead_1 (by decide) rfl (by omega) (fun c1 => ?_) (fun c1 => ?_)
    · exfalso; omega
    · refine gj_iload_n (pc' := 5) dX11_doesLead_4 rfl rfl ?_
      refine gj_iload_n (pc' := 6) dX11_doesLead_5 rfl rfl ?_
      refine gj_icmp_ne (pc' := 9) (tgt := 13) dX11_doesLead_6 (by decide) rfl (by omega) (fun c6 => ?_) (fun c6 => ?_)
      · refine gj_iconst (pc' := 14) dX11_doesLead_13 rfl ?_
        refine gj_zret rfl (by first | rfl | exact gnZ _ | assumption) dX11_doesLead_14 ?_
        by_cases e : a = hh
        · first
          | (exfalso; omega)
          | exact gR_t (show (a == hh) = true from beq_iff_eq.mpr e)
        · first
          | (exfalso; omega)
          | exact gR_f (show (a == hh) = false from beq_eq_false_iff_ne.mpr e)
      · refine gj_iconst (pc' := 10) dX11_doesLead_9 rfl ?_
        refine gj_goto (pc' := 14) dX11_doesLead_10 (by decide) ?_
        refine gj_zret rfl (by first | rfl | exact gnZ _ | assumption) dX11_doesLead_14 ?_
        by_cases e : a = hh
        · first
          | (exfalso; omega)
          | exact gR_t (show (a == hh) = true from beq_iff_eq.mpr e)
        · first
          | (exfalso; omega)
          | exact gR_f (show (a == hh) = false from beq_eq_false_iff_ne.mpr e)
  | succ n ih =>
    intro hn a ha
    have ih := ih (by omega)
    refine gSp_of (by decide +kernel) (Nat.le_of_ble_eq_true rfl) ?_
    show gJ RX11 cX11_doesLead 5 (some .boolean) _ 0 [some (.ref 142), some (.int (zI (a : Int))), some (.int (zI (hh : Int))), some (.int (zI ((n + 1 : Nat) : Int))), none] [] _ _
    refine gj_iload_n (pc' := 1) dX11_doesLead_0 rfl rfl ?_
    refine gj_if_ne (pc' := 4) (tgt := 15) dX11_doesLead_1 (by decide) rfl (by omega) (fun c1 => ?_) (fun c1 => ?_)
    · refine gj_iconst (pc' := 16) dX11_doesLead_15 rfl ?_
      refine gj_istore (pc' := 18) dX11_doesLead_16 rfl (by decide) ?_
      refine gJ_wk (gJ_fH0 (L := fun x  => [some (.ref 142), some (.int (zI (a : Int))), some (.int (zI (hh : Int))), some (.int (zI ((n + 1 : Nat) : Int))), some (.int (zI (x : Int)))]) (I := fun x  hp => hp = h ∧ anyN (fun b => wr T S a b && wk (wr T S) (T 3) hh n b) x = false) (T 3) (fun x  hp hb_x iv_x ih_x => ?step_1) (0) (Nat.zero_le _)  _ ?iv0_1) ?ll0_1
      case ll0_1 =>
        repeat' (first | exact True.intro | with_reducible exact rfl | refine And.intro ?_ ?_ | refine vI ?_ | refine vL ?_)
        all_goals first | rfl | omega
      case iv0_1 =>
        exact ⟨rfl, rfl⟩
      obtain ⟨rfl, i2⟩ := iv_x
      have es : anyN (fun b => wr T S a b && wk (wr T S) (T 3) hh n b) (x + 1) = (anyN (fun b => wr T S a b && wk (wr T S) (T 3) hh n b) x || (wr T S a x && wk (wr T S) (T 3) hh n x)) := rfl
      refine gj_iload (pc' := 20) dX11_doesLead_18 rfl rfl ?_
      refine gj_aload_n (pc' := 21) dX11_doesLead_20 rfl rfl ?_
      refine gf_X11_20 (pc' := 24) dX11_doesLead_21 rfl (by first | rfl | assumption) rfl ?_
      refine gj_iconst (pc' := 25) dX11_doesLead_24 rfl ?_
      refine gj_iald (pc' := 26) (j := 3) (by first | rfl | assumption) (by omega) (by omega) (by decide) dX11_doesLead_25 rfl ?_
      rw [hA.1 3 (by decide)]
      refine gj_icmp_ge (pc' := 29) (tgt := 60) dX11_doesLead_26 (by decide) rfl (by omega) (fun c26 => ?_) (fun c26 => ?_)
      · refine gj_iconst (pc' := 61) dX11_doesLead_60 rfl ?_
        refine gj_zret rfl (by first | rfl | exact gnZ _ | assumption) dX11_doesLead_61 ?_
        exact gR_f (show anyN (fun b => wr T S a b && wk (wr T S) (T 3) hh n b) (T 3) = false by rw [show T 3 = x by omega] at i2 ⊢; exact i2)
      · refine gj_aload_n (pc' := 30) dX11_doesLead_29 rfl rfl ?_
        refine gj_iload_n (pc' := 31) dX11_doesLead_30 rfl rfl ?_
        refine gj_iload (pc' := 33) dX11_doesLead_31 rfl rfl ?_
        refine gr_X11_334 (pc' := 36) dX11_doesLead_33 rfl (m_didWrong hM (by omega) (by omega)) rfl (by first | rfl | assumption) (by omega) rfl (Nat.le_of_ble_eq_true rfl) ?_
        first | refine gj_ifB_eq (pc' := 39) (tgt := 54) dX11_doesLead_36 (by decide) rfl (fun c36 => ?_) (fun c36 => ?_) | refine gj_if_eq (pc' := 39) (tgt := 54) dX11_doesLead_36 (by decide) rfl (by omega) (fun c36 => ?_) (fun c36 => ?_)
        · refine gj_iinc (pc' := 57) dX11_doesLead_54 rfl rfl (by decide) ?_
          refine gj_goto (pc' := 18) dX11_doesLead_57 (by decide) ?_
          refine gJ_wk (ih_x  _ (by omega) ?iv_2) ?ll_2
          case ll_2 =>
            repeat' (first | exact True.intro | with_reducible exact rfl | refine And.intro ?_ ?_ | refine vI ?_ | refine vL ?_)
            all_goals omega
          refine ⟨rfl, ?_⟩
          rw [es, i2, Bool.false_or]
          first
          | (rw [c36, Bool.false_and])
          | (rw [c49, Bool.and_false])
        · refine gj_aload_n (pc' := 40) dX11_doesLead_39 rfl rfl ?_
          refine gj_iload (pc' := 42) dX11_doesLead_40 rfl rfl ?_
          refine gj_iload_n (pc' := 43) dX11_doesLead_42 rfl rfl ?_
          refine gj_iload_n (pc' := 44) dX11_doesLead_43 rfl rfl ?_
          refine gj_iconst (pc' := 45) dX11_doesLead_44 rfl ?_
          refine gj_isub (pc' := 46) dX11_doesLead_45 rfl ?_
          rw [show ((n + 1 : Nat) : Int) - 1 = (n : Int) by omega]
          refine gr_X11_337 (pc' := 49) dX11_doesLead_46 rfl (ih x (by omega)) rfl (by first | rfl | assumption) (by omega) rfl (Nat.le_of_ble_eq_true rfl) ?_
          first | refine gj_ifB_eq (pc' := 52) (tgt := 54) dX11_doesLead_49 (by decide) rfl (fun c49 => ?_) (fun c49 => ?_) | refine gj_if_eq (pc' := 52) (tgt := 54) dX11_doesLead_49 (by decide) rfl (by omega) (fun c49 => ?_) (fun c49 => ?_)
          · refine gj_iinc (pc' := 57) dX11_doesLead_54 rfl rfl (by decide) ?_
            refine gj_goto (pc' := 18) dX11_doesLead_57 (by decide) ?_
            refine gJ_wk (ih_x  _ (by omega) ?iv_3) ?ll_3
            case ll_3 =>
              repeat' (first | exact True.intro | with_reducible exact rfl | refine And.intro ?_ ?_ | refine vI ?_ | refine vL ?_)
              all_goals omega
            refine ⟨rfl, ?_⟩
            rw [es, i2, Bool.false_or]
            first
            | (rw [c36, Bool.false_and])
            | (rw [c49, Bool.and_false])
          · refine gj_iconst (pc' := 53) dX11_doesLead_52 rfl ?_
            refine gj_zret rfl (by first | rfl | exact gnZ _ | assumption) dX11_doesLead_53 ?_
            exact gR_t (wk_s.mpr ⟨x, by omega, c36, c49⟩)
    · exfalso; omega
theorem m_ringOf {h : gH} {T S : Nat → Nat} {hh : Nat} (hM : MI h T S) (hhh : hh < T 3) : gSp 11 yX11_ringOf cX11_ringOf 3 (some .int) [.ref 142, .int (zI (hh : Int))] h (gR (.int (zI (rgL (wr T S) (T 3) hh))) h) := by
  refine gSp_of (by decide +kernel) (Nat.le_of_ble_eq_true rfl) ?_
  show gJ RX11 cX11_ringOf 3 (some .int) _ 0 [some (.ref 142), some (.int (zI (hh : Int))), none] [] _ _
  refine gj_iconst (pc' := 1) dX11_ringOf_0 rfl ?_
  refine gj_istore_n (pc' := 2) dX11_ringOf_1 rfl (by decide) ?_
  refine gJ_wk (gJ_fH0 (L := fun i  => [some (.ref 142), some (.int (zI (hh : Int))), some (.int (zI ((i + 2 : Nat) : Int)))]) (I := fun i  hp => hp = h ∧ fstN (fun i => wk (wr T S) (T 3) hh (i + 2) hh) i = -2) (5) (fun i  hp hb_i iv_i ih_i => ?step_1) (0) (Nat.zero_le _)  _ ?iv0_1) ?ll0_1
  case ll0_1 =>
    repeat' (first | exact True.intro | with_reducible exact rfl | refine And.intro ?_ ?_ | refine vI ?_ | refine vL ?_)
    all_goals first | rfl | omega
  case iv0_1 =>
    exact ⟨rfl, rfl⟩
  obtain ⟨rfl, i2⟩ := iv_i
  have es := fstN_s (fun i => wk (wr T S) (T 3) hh (i + 2) hh) i
  refine gj_iload_n (pc' := 3) dX11_ringOf_2 rfl rfl ?_
  refine gj_bipush (pc' := 5) dX11_ringOf_3 rfl (by decide) ?_
  refine gj_icmp_gt (pc' := 8) (tgt := 26) dX11_ringOf_5 (by decide) rfl (by omega) (fun c5 => ?_) (fun c5 => ?_)
  · refine gj_bipush (pc' := 28) dX11_ringOf_26 rfl (by decide) ?_
    refine gj_iret rfl dX11_ringOf_28 ?_
    rw [show i = 5 by omega] at i2
    exact gR_i (by unfold rgL; rw [if_pos i2])
  · refine gj_aload_n (pc' := 9) dX11_ringOf_8 rfl rfl ?_
    refine gj_iload_n (pc' := 10) dX11_ringOf_9 rfl rfl ?_
    refine gj_iload_n (pc' := 11) dX11_ringOf_10 rfl rfl ?_
    refine gj_iload_n (pc' := 12) dX11_ringOf_11 rfl rfl ?_
    refine gr_X11_337 (pc' := 15) dX11_ringOf_12 rfl (m_doesLead hM hhh (i + 2) (by omega) hh hhh) rfl (by first | rfl | assumption) (by omega) rfl (Nat.le_of_ble_eq_true rfl) ?_
    first | refine gj_ifB_eq (pc' := 18) (tgt := 20) dX11_ringOf_15 (by decide) rfl (fun c15 => ?_) (fun c15 => ?_) | refine gj_if_eq (pc' := 18) (tgt := 20) dX11_ringOf_15 (by decide) rfl (by omega) (fun c15 => ?_) (fun c15 => ?_)
    · refine gj_iinc (pc' := 23) dX11_ringOf_20 rfl rfl (by decide) ?_
      refine gj_goto (pc' := 2) dX11_ringOf_23 (by decide) ?_
      refine gJ_wk (ih_i  _ (by omega) ?iv_2) ?ll_2
      case ll_2 =>
        repeat' (first | exact True.intro | with_reducible exact rfl | refine And.intro ?_ ?_ | refine vI ?_ | refine vL ?_)
        all_goals omega
      refine ⟨rfl, es.trans ?_⟩
      rw [if_neg (fun z => absurd (z.2.symm.trans c15) (by decide))]
      exact i2
    · refine gj_iload_n (pc' := 19) dX11_ringOf_18 rfl rfl ?_
      refine gj_iret rfl dX11_ringOf_19 ?_
      exact gR_i (by unfold rgL; rw [fstN_hit (p := fun i => wk (wr T S) (T 3) hh (i + 2) hh) i2 c15 (by omega), if_neg (by omega)]; omega)
theorem m_ring {h : gH} {T S : Nat → Nat} {a : Int} (hQ : mQ h T S) (ha : inB a) : gSp 12 yX11_ring cX11_ring 2 (some .int) [.ref 142, .int (zI a)] h (qM (aHo T a (fun n => rgL (wr T S) (T 3) n)).1 (aHo T a (fun n => rgL (wr T S) (T 3) n)).2 h) := by
  have ha2 := ha
  unfold inB at ha2
  refine gSp_of (by decide +kernel) (Nat.le_of_ble_eq_true rfl) ?_
  show gJ RX11 cX11_ring 2 (some .int) _ 0 [some (.ref 142), some (.int (zI a))] [] _ _
  refine gj_aload_n (pc' := 1) dX11_ring_0 rfl rfl ?_
  refine gc_X11_153 (pc' := 4) dX11_ring_1 rfl (m_good) rfl (by first | rfl | assumption) (by decide) rfl (Nat.le_of_ble_eq_true rfl) (fun v9 h9 q9 => ?_)
  obtain ⟨rfl, rfl⟩ := q9
  show gJ _ _ _ _ _ _ _ [] _ _
  refine gj_aload_n (pc' := 5) dX11_ring_4 rfl rfl ?_
  refine gj_iload_n (pc' := 6) dX11_ring_5 rfl rfl ?_
  refine gr_X11_277 (pc' := 9) dX11_ring_6 rfl (m_isHouseQ hQ.g ha) rfl (by first | rfl | assumption) (by decide) rfl (Nat.le_of_ble_eq_true rfl) ?_
  first | refine gj_ifB_eq (pc' := 12) (tgt := 20) dX11_ring_9 (by decide) rfl (fun c9 => ?_) (fun c9 => ?_) | refine gj_if_eq (pc' := 12) (tgt := 20) dX11_ring_9 (by decide) rfl (by omega) (fun c9 => ?_) (fun c9 => ?_)
  · first | have g9 := of_decide_eq_true c9 | have g9 := of_decide_eq_false c9 | skip
    refine gj_aload_n (pc' := 21) dX11_ring_20 rfl rfl ?_
    refine gj_iconst (pc' := 22) dX11_ring_21 rfl ?_
    refine gc_X11_156 (pc' := 25) dX11_ring_22 rfl (m_no) rfl (by first | rfl | assumption) (by decide) rfl (Nat.le_of_ble_eq_true rfl) (fun v9 h9 q9 => ?_)
    obtain ⟨rfl, rfl⟩ := q9
    show gJ _ _ _ _ _ _ _ (.int (zI (-1)) :: _) _ _
    refine gj_iret rfl dX11_ring_25 ?_
    first | exact qM_n (by unfold aHo; rw [if_neg (by omega)]) | exact qM_g (by unfold aHo; rw [if_pos (by omega), Int.toNat_natCast])
  · first | have g9 := of_decide_eq_true c9 | have g9 := of_decide_eq_false c9 | skip
    obtain ⟨n, rfl⟩ : ∃ n : Nat, a = (n : Int) := ⟨a.toNat, by omega⟩
    have hM : MI (mG h) T S := hQ.mi (by omega)
    refine gj_aload_n (pc' := 13) dX11_ring_12 rfl rfl ?_
    refine gj_iload_n (pc' := 14) dX11_ring_13 rfl rfl ?_
    refine gr_X11_331 (pc' := 17) dX11_ring_14 rfl (m_ringOf hM (by omega)) rfl (by first | rfl | assumption) (by decide) rfl (Nat.le_of_ble_eq_true rfl) ?_
    refine gj_goto (pc' := 25) dX11_ring_17 (by decide) ?_
    refine gj_iret rfl dX11_ring_25 ?_
    first | exact qM_n (by unfold aHo; rw [if_neg (by omega)]) | exact qM_g (by unfold aHo; rw [if_pos (by omega), Int.toNat_natCast])
theorem m_ringAt {h : gH} {T S : Nat → Nat} {a b : Int} (hQ : mQ h T S) (ha : inB a) (hb : inB b) : gSp 12 yX11_ringAt cX11_ringAt 7 (some .int) [.ref 142, .int (zI a), .int (zI b)] h (qM (aRgAt T S a b).1 (aRgAt T S a b).2 h) := by
  have ha2 := ha
  unfold inB at ha2
  have hb2 := hb
  unfold inB at hb2
  refine gSp_of (by decide +kernel) (Nat.le_of_ble_eq_true rfl) ?_
  show gJ RX11 cX11_ringAt 7 (some .int) _ 0 [some (.ref 142), some (.int (zI a)), some (.int (zI b)), none, none, none, none] [] _ _
  refine gj_aload_n (pc' := 1) dX11_ringAt_0 rfl rfl ?_
  refine gc_X11_153 (pc' := 4) dX11_ringAt_1 rfl (m_good) rfl (by first | rfl | assumption) (by omega) rfl (Nat.le_of_ble_eq_true rfl) (fun v9 h9 q9 => ?_)
  obtain ⟨rfl, rfl⟩ := q9
  show gJ _ _ _ _ _ _ _ [] _ _
  refine gj_aload_n (pc' := 5) dX11_ringAt_4 rfl rfl ?_
  refine gj_iload_n (pc' := 6) dX11_ringAt_5 rfl rfl ?_
  refine gr_X11_277 (pc' := 9) dX11_ringAt_6 rfl (m_isHouseQ hQ.g ha) rfl (by first | rfl | assumption) (by omega) rfl (Nat.le_of_ble_eq_true rfl) ?_
  first | refine gj_ifB_ne (pc' := 12) (tgt := 18) dX11_ringAt_9 (by decide) rfl (fun c9 => ?_) (fun c9 => ?_) | refine gj_if_ne (pc' := 12) (tgt := 18) dX11_ringAt_9 (by decide) rfl (by omega) (fun c9 => ?_) (fun c9 => ?_)
  · first | have g9 := of_decide_eq_true c9 | have g9 := of_decide_eq_false c9 | skip
    obtain ⟨n, rfl⟩ : ∃ n : Nat, a = (n : Int) := ⟨a.toNat, by omega⟩
    have hM : MI (mG h) T S := hQ.mi (by omega)
    obtain ⟨hA2, hT, hS⟩ := id hM
    have h3 := hT.2.2.2.1
    have hn : n < T 3 := by omega
    have hL2 : -2 ≤ rgL (wr T S) (T 3) n ∧ rgL (wr T S) (T 3) n ≤ 6 := by
      rcases rgL_cs (W := wr T S) (N := T 3) (hh := n) with e | ⟨L, e, l1, l2, -⟩ <;> omega
    refine gj_aload_n (pc' := 19) dX11_ringAt_18 rfl rfl ?_
    refine gj_iload_n (pc' := 20) dX11_ringAt_19 rfl rfl ?_
    refine gr_X11_331 (pc' := 23) dX11_ringAt_20 rfl (m_ringOf hM hn) rfl (by first | rfl | assumption) (by omega) rfl (Nat.le_of_ble_eq_true rfl) ?_
    refine gj_istore_n (pc' := 24) dX11_ringAt_23 rfl (by decide) ?_
    refine gj_iload_n (pc' := 25) dX11_ringAt_24 rfl rfl ?_
    refine gj_iconst (pc' := 26) dX11_ringAt_25 rfl ?_
    refine gj_iload_n (pc' := 27) dX11_ringAt_26 rfl rfl ?_
    refine gj_iconst (pc' := 28) dX11_ringAt_27 rfl ?_
    refine gj_isub (pc' := 29) dX11_ringAt_28 rfl ?_
    refine gr_X11_138 (pc' := 32) dX11_ringAt_29 rfl (m_in hb2 (by omega) (by omega)) rfl (by omega) rfl (Nat.le_of_ble_eq_true rfl) ?_
    first | refine gj_ifB_ne (pc' := 35) (tgt := 41) dX11_ringAt_32 (by decide) rfl (fun c32 => ?_) (fun c32 => ?_) | refine gj_if_ne (pc' := 35) (tgt := 41) dX11_ringAt_32 (by decide) rfl (by omega) (fun c32 => ?_) (fun c32 => ?_)
    · first | have g32 := of_decide_eq_true c32 | have g32 := of_decide_eq_false c32 | skip
      obtain ⟨i, rfl⟩ : ∃ i : Nat, b = (i : Int) := ⟨b.toNat, by omega⟩
      obtain ⟨L, hL⟩ : ∃ L : Nat, rgL (wr T S) (T 3) n = (L : Int) := ⟨(rgL (wr T S) (T 3) n).toNat, by omega⟩
      have hok := mb_ok h3.2 hn (wr_self (S := S) hT n) hL
      have hiL : i < L := by omega
      rw [hL]
      refine gj_iload_n (pc' := 42) dX11_ringAt_41 rfl rfl ?_
      refine gj_istore (pc' := 44) dX11_ringAt_42 rfl (by decide) ?_
      refine gj_iconst (pc' := 45) dX11_ringAt_44 rfl ?_
      refine gj_istore (pc' := 47) dX11_ringAt_45 rfl (by decide) ?_
      refine gJ_wk (gJ_fH1 (L := fun k x => [some (.ref 142), some (.int (zI (n : Int))), some (.int (zI (i : Int))), some (.int (zI (L : Int))), some (.int (zI x)), some (.int (zI ((k : Int) + 1))), none]) (I := fun k x hp => hp = mG h ∧ x = (mbN (wr T S) (T 3) n L k : Int)) (i) (fun k x hp hb_k iv_k ih_k => ?step_1) (0) (Nat.zero_le _) ?x0_1 _ ?iv0_1) ?ll0_1
      case ll0_1 =>
        repeat' (first | exact True.intro | with_reducible exact rfl | refine And.intro ?_ ?_ | refine vI ?_ | refine vL ?_)
        all_goals first | rfl | omega
      case iv0_1 =>
        exact ⟨rfl, rfl⟩
      obtain ⟨rfl, rfl⟩ := iv_k
      obtain ⟨o1, o2, o3, o4⟩ := hok k (by omega)
      refine gj_iload (pc' := 49) dX11_ringAt_47 rfl rfl ?_
      refine gj_iload_n (pc' := 50) dX11_ringAt_49 rfl rfl ?_
      refine gj_icmp_gt (pc' := 53) (tgt := 97) dX11_ringAt_50 (by decide) rfl (by omega) (fun c50 => ?_) (fun c50 => ?_)
      · refine gj_iload (pc' := 99) dX11_ringAt_97 rfl rfl ?_
        refine gj_iret rfl dX11_ringAt_99 ?_
        exact qM_g (by unfold aRgAt; rw [if_pos (by omega), Int.toNat_natCast, hL, Int.toNat_natCast, Int.toNat_natCast, if_pos (by omega), show i = k by omega])
      · refine gj_iconst (pc' := 54) dX11_ringAt_53 rfl ?_
        refine gj_istore (pc' := 56) dX11_ringAt_54 rfl (by decide) ?_
        refine gJ_wk (gJ_fH0 (L := fun y  => [some (.ref 142), some (.int (zI (n : Int))), some (.int (zI (i : Int))), some (.int (zI (L : Int))), some (.int (zI (mbN (wr T S) (T 3) n L k : Nat))), some (.int (zI ((k : Int) + 1))), some (.int (zI (y : Int)))]) (I := fun y  hp => hp = mG h ∧ k < i ∧ ∀ j, j < y → (wr T S (mbN (wr T S) (T 3) n L k) j && wk (wr T S) (T 3) n (L - (k + 1)) j) = false) (T 3) (fun y  hp hb_y iv_y ih_y => ?step_2) (0) (Nat.zero_le _)  _ ?iv0_2) ?ll0_2
        case ll0_2 =>
          repeat' (first | exact True.intro | with_reducible exact rfl | refine And.intro ?_ ?_ | refine vI ?_ | refine vL ?_)
          all_goals first | rfl | omega
        case iv0_2 =>
          exact ⟨rfl, by omega, fun j hj => absurd hj (Nat.not_lt_zero j)⟩
        obtain ⟨rfl, hki, i3⟩ := iv_y
        have o4 := o4 (by omega)
        obtain ⟨o1', -, -, -⟩ := hok (k + 1) (by omega)
        have hcs := fstN_cs (p := fun x => wr T S (mbN (wr T S) (T 3) n L k) x && wk (wr T S) (T 3) n (L - (k + 1)) x) (T 3)
        rw [o4] at hcs
        have hyl : y ≤ mbN (wr T S) (T 3) n L (k + 1) ∧ (wr T S (mbN (wr T S) (T 3) n L k) y = true → wk (wr T S) (T 3) n (L - (k + 1)) y = true → y = mbN (wr T S) (T 3) n L (k + 1)) := by
          rcases hcs with ⟨e, _⟩ | ⟨v, v1, e, v2, v3⟩
          · omega
          · obtain rfl : v = mbN (wr T S) (T 3) n L (k + 1) := by omega
            constructor
            · rcases Nat.lt_or_ge (mbN (wr T S) (T 3) n L (k + 1)) y with q | q
              · have := (i3 _ q).symm.trans v2
                cases this
              · exact q
            · intro z1 z2
              rcases Nat.lt_or_ge y (mbN (wr T S) (T 3) n L (k + 1)) with q | q
              · have := v3 y q
                rw [z1, z2] at this
                cases this
              · rcases Nat.lt_or_ge (mbN (wr T S) (T 3) n L (k + 1)) y with q2 | q2
                · have := (i3 _ q2).symm.trans v2
                  cases this
                · omega
        clear hcs
        have hL6 : L ≤ 6 := by omega
        refine gj_aload_n (pc' := 57) dX11_ringAt_56 rfl rfl ?_
        refine gj_iload (pc' := 59) dX11_ringAt_57 rfl rfl ?_
        refine gj_iload (pc' := 61) dX11_ringAt_59 rfl rfl ?_
        refine gr_X11_334 (pc' := 64) dX11_ringAt_61 rfl (m_didWrong hM (by omega) (by omega)) rfl (by first | rfl | assumption) (by omega) rfl (Nat.le_of_ble_eq_true rfl) ?_
        first | refine gj_ifB_eq (pc' := 67) (tgt := 81) dX11_ringAt_64 (by decide) rfl (fun c64 => ?_) (fun c64 => ?_) | refine gj_if_eq (pc' := 67) (tgt := 81) dX11_ringAt_64 (by decide) rfl (by omega) (fun c64 => ?_) (fun c64 => ?_)
        · first | have g64 := of_decide_eq_true c64 | have g64 := of_decide_eq_false c64 | skip
          refine gj_iinc (pc' := 84) dX11_ringAt_81 rfl rfl (by decide) ?_
          refine gj_goto (pc' := 56) dX11_ringAt_84 (by decide) ?_
          refine gJ_wk (ih_y  _ (by omega) ?iv_3) ?ll_3
          case ll_3 =>
            repeat' (first | exact True.intro | with_reducible exact rfl | refine And.intro ?_ ?_ | refine vI ?_ | refine vL ?_)
            all_goals omega
          refine ⟨rfl, hki, fun j hj => ?_⟩
          by_cases q : j = y
          · rw [q]
            first
            | (rw [c64, Bool.false_and])
            | (rw [c78, Bool.and_false])
          · exact i3 j (by omega)
        · first | have g64 := of_decide_eq_true c64 | have g64 := of_decide_eq_false c64 | skip
          refine gj_aload_n (pc' := 68) dX11_ringAt_67 rfl rfl ?_
          refine gj_iload (pc' := 70) dX11_ringAt_68 rfl rfl ?_
          refine gj_iload_n (pc' := 71) dX11_ringAt_70 rfl rfl ?_
          refine gj_iload_n (pc' := 72) dX11_ringAt_71 rfl rfl ?_
          refine gj_iload (pc' := 74) dX11_ringAt_72 rfl rfl ?_
          refine gj_isub (pc' := 75) dX11_ringAt_74 rfl ?_
          rw [show (L : Int) - ((k : Int) + 1) = ((L - (k + 1) : Nat) : Int) by omega]
          refine gr_X11_337 (pc' := 78) dX11_ringAt_75 rfl (m_doesLead hM hn (L - (k + 1)) (by omega) y (by omega)) rfl (by first | rfl | assumption) (by omega) rfl (Nat.le_of_ble_eq_true rfl) ?_
          first | refine gj_ifB_ne (pc' := 81) (tgt := 87) dX11_ringAt_78 (by decide) rfl (fun c78 => ?_) (fun c78 => ?_) | refine gj_if_ne (pc' := 81) (tgt := 87) dX11_ringAt_78 (by decide) rfl (by omega) (fun c78 => ?_) (fun c78 => ?_)
          · first | have g78 := of_decide_eq_true c78 | have g78 := of_decide_eq_false c78 | skip
            refine gj_iload (pc' := 89) dX11_ringAt_87 rfl rfl ?_
            refine gj_istore (pc' := 91) dX11_ringAt_89 rfl (by decide) ?_
            refine gj_iinc (pc' := 94) dX11_ringAt_91 rfl rfl (by decide) ?_
            refine gj_goto (pc' := 47) dX11_ringAt_94 (by decide) ?_
            refine gJ_wk (ih_k ?x_4 _ (by omega) ?iv_4) ?ll_4
            case ll_4 =>
              repeat' (first | exact True.intro | with_reducible exact rfl | refine And.intro ?_ ?_ | refine vI ?_ | refine vL ?_)
              all_goals first | omega | (have := hyl.2 c64 c78; omega)
            have e := hyl.2 c64 c78
            exact ⟨rfl, by rw [e]⟩
          · first | have g78 := of_decide_eq_true c78 | have g78 := of_decide_eq_false c78 | skip
            refine gj_iinc (pc' := 84) dX11_ringAt_81 rfl rfl (by decide) ?_
            refine gj_goto (pc' := 56) dX11_ringAt_84 (by decide) ?_
            refine gJ_wk (ih_y  _ (by omega) ?iv_5) ?ll_5
            case ll_5 =>
              repeat' (first | exact True.intro | with_reducible exact rfl | refine And.intro ?_ ?_ | refine vI ?_ | refine vL ?_)
              all_goals omega
            refine ⟨rfl, hki, fun j hj => ?_⟩
            by_cases q : j = y
            · rw [q]
              first
              | (rw [c64, Bool.false_and])
              | (rw [c78, Bool.and_false])
            · exact i3 j (by omega)
    · first | have g32 := of_decide_eq_true c32 | have g32 := of_decide_eq_false c32 | skip
      refine gj_aload_n (pc' := 36) dX11_ringAt_35 rfl rfl ?_
      refine gj_iconst (pc' := 37) dX11_ringAt_36 rfl ?_
      refine gc_X11_156 (pc' := 40) dX11_ringAt_37 rfl (m_no) rfl (by first | rfl | assumption) (by omega) rfl (Nat.le_of_ble_eq_true rfl) (fun v9 h9 q9 => ?_)
      obtain ⟨rfl, rfl⟩ := q9
      show gJ _ _ _ _ _ _ _ (.int (zI (-1)) :: _) _ _
      refine gj_iret rfl dX11_ringAt_40 ?_
      exact qM_n (by unfold aRgAt; rw [if_pos (by omega), Int.toNat_natCast, if_neg (by omega)])
  · first | have g9 := of_decide_eq_true c9 | have g9 := of_decide_eq_false c9 | skip
    refine gj_aload_n (pc' := 13) dX11_ringAt_12 rfl rfl ?_
    refine gj_iconst (pc' := 14) dX11_ringAt_13 rfl ?_
    refine gc_X11_156 (pc' := 17) dX11_ringAt_14 rfl (m_no) rfl (by first | rfl | assumption) (by omega) rfl (Nat.le_of_ble_eq_true rfl) (fun v9 h9 q9 => ?_)
    obtain ⟨rfl, rfl⟩ := q9
    show gJ _ _ _ _ _ _ _ (.int (zI (-1)) :: _) _ _
    refine gj_iret rfl dX11_ringAt_17 ?_
    exact qM_n (by unfold aRgAt; rw [if_neg (by omega)])
