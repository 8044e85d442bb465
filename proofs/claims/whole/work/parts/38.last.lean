/-! the bird that comes last by storms: both sides -/
theorem al_in (f st x : Nat) : alF f st x = -2 ∨ (0 ≤ alF f st x ∧ alF f st x ≤ 90) := by
  unfold alF
  generalize hN : (91 : Nat) = N
  have key : ∀ (p : Nat → Bool) (n : Nat), fstN p n = -2 ∨ (0 ≤ fstN p n ∧ fstN p n < n) := by
    intro p n
    induction n with
    | zero => exact Or.inl rfl
    | succ n ih =>
      rw [fstN_s]
      split <;> omega
  have := key (fun k => nrN st x k == f) N
  omega
def lsN (T S : Nat → Nat) (x : Nat) : Nat → Int × Int × Nat
  | 0 => (-2, -1, x)
  | b + 1 => if sGone S b = true then lsN T S x b else
      (if alF (tFl T b) (T 2) (lsN T S x b).2.2 = -2 ∨ (T (22 + 5 * b) : Int) + alF (tFl T b) (T 2) (lsN T S x b).2.2 ≤ (lsN T S x b).2.1 then
        ((lsN T S x b).1, (lsN T S x b).2.1, sdN (lsN T S x b).2.2 (alE (tFl T b) (T 2) (lsN T S x b).2.2))
      else ((b : Int), (T (22 + 5 * b) : Int) + alF (tFl T b) (T 2) (lsN T S x b).2.2, sdN (lsN T S x b).2.2 (alE (tFl T b) (T 2) (lsN T S x b).2.2)))
theorem lsN_s (T S : Nat → Nat) (x b : Nat) : lsN T S x (b + 1) = if sGone S b = true then lsN T S x b else
      (if alF (tFl T b) (T 2) (lsN T S x b).2.2 = -2 ∨ (T (22 + 5 * b) : Int) + alF (tFl T b) (T 2) (lsN T S x b).2.2 ≤ (lsN T S x b).2.1 then
        ((lsN T S x b).1, (lsN T S x b).2.1, sdN (lsN T S x b).2.2 (alE (tFl T b) (T 2) (lsN T S x b).2.2))
      else ((b : Int), (T (22 + 5 * b) : Int) + alF (tFl T b) (T 2) (lsN T S x b).2.2, sdN (lsN T S x b).2.2 (alE (tFl T b) (T 2) (lsN T S x b).2.2))) := rfl
theorem lsN_in {T S : Nat → Nat} (hT : TV T) {x : Nat} (hx : x < 65537) : ∀ b, b ≤ T 4 → ((lsN T S x b).1 = -2 ∧ (lsN T S x b).2.1 = -1 ∨ 0 ≤ (lsN T S x b).1 ∧ (lsN T S x b).1 < b ∧ 0 ≤ (lsN T S x b).2.1 ∧ (lsN T S x b).2.1 ≤ 120) ∧ (lsN T S x b).2.2 < 65537
  | 0, _ => ⟨Or.inl ⟨rfl, rfl⟩, hx⟩
  | b + 1, hb => by
    have ih := lsN_in (S := S) hT hx b (by omega)
    have h9 := (hT.2.2.2.2.2.2.2.2.1 b (by omega)).2.2.2.2.1
    rw [lsN_s]
    generalize lsN T S x b = p at ih
    have ha := al_in (tFl T b) (T 2) p.2.2
    have hs := sdN_lt ih.2 (alE (tFl T b) (T 2) p.2.2)
    generalize sdN p.2.2 (alE (tFl T b) (T 2) p.2.2) = e at hs ⊢
    generalize alF (tFl T b) (T 2) p.2.2 = d at ha ⊢
    obtain ⟨p1, p2, p3⟩ := p
    simp only at ih ⊢
    split
    · simp only
      omega
    · split
      · simp only
        omega
      · simp only
        omega
theorem nPr_bit {T S : Nat → Nat} {b : Nat} (hb : b < T 4) : (nWo (2 ^ T 4 - 1) (S 19)).testBit b = !sGone S b := by
  rw [nWo_bit, Nat.testBit_two_pow_sub_one]
  simp [hb, sGone]
theorem s_latest {h : gH} {t x : Nat} {T S : Nat → Nat} (hI : CI h t T S) (hs : h.1 141 0 = (x : Int)) (hx : x < 65537) : gSp 4 yX6_latestBird cX6_latestBird 8 (some .int) [.ref 141, .ref t, .int (zI (nWo (2 ^ T 4 - 1) (S 19) : Nat))] h (fun v h' => v = some (.int (zI ((lsN T S x (T 4)).1))) ∧ h'.2 = h.2 ∧ (∀ o, o ≠ 141 → h'.1 o = h.1 o)) := by
  obtain ⟨ht, hP, hT, hS, hA, hB, hN⟩ := id hI
  obtain ⟨s0, s1, s2, s3, s4, s5, s6, s7, s8, s9, s10⟩ := shT ht
  have htt : t = 6 ∨ t = 29 := ht
  have h4 : T 4 ≤ 7 := hT.2.2.2.2.1
  have hpl := nPr_lt (S := S) hT
  have hpb := fun b (hb : b < T 4) => nPr_bit (T := T) (S := S) (b := b) hb
  generalize nWo (2 ^ T 4 - 1) (S 19) = pm at hpl hpb ⊢
  refine gSp_of (by decide +kernel) (Nat.le_of_ble_eq_true rfl) ?_
  show gJ RX6 cX6_latestBird 8 (some .int) _ 0 [some (.ref 141), some (.ref t), some (.int (zI (pm : Int))), none, none, none, none, none] [] _ _
  refine gj_bipush (pc' := 2) dX6_latestBird_0 rfl (by decide) ?_
  refine gj_istore_n (pc' := 3) dX6_latestBird_2 rfl (by decide) ?_
  refine gj_iconst (pc' := 4) dX6_latestBird_3 rfl ?_
  refine gj_istore (pc' := 6) dX6_latestBird_4 rfl (by decide) ?_
  refine gj_iconst (pc' := 7) dX6_latestBird_6 rfl ?_
  refine gj_istore (pc' := 9) dX6_latestBird_7 rfl (by decide) ?_
  refine gJ_wk (gJ_fH2 (L := fun b x1 x2 => [some (.ref 141), some (.ref t), some (.int (zI (pm : Int))), some (.int (zI x1)), some (.int (zI x2)), some (.int (zI (b : Int))), none, none]) (I := fun b x1 x2 hp => x1 = (lsN T S x b).1 ∧ x2 = (if (lsN T S x b).1 = -2 then 0 else (lsN T S x b).2.1) ∧ hp.2 = h.2 ∧ (∀ o, o ≠ 141 → hp.1 o = h.1 o) ∧ hp.1 141 0 = ((lsN T S x b).2.2 : Int)) (T 4) (fun b x1 x2 hp hb_b iv_b ih_b => ?step_1) (0) (Nat.zero_le _) ?x10_1 ?x20_1 _ ?iv0_1) ?ll0_1
  case ll0_1 =>
    repeat' (first | exact True.intro | with_reducible exact rfl | refine And.intro ?_ ?_ | refine vI ?_ | refine vL ?_)
    all_goals first | rfl | omega
  case iv0_1 =>
    exact ⟨rfl, rfl, rfl, fun _ _ => rfl, hs⟩
  obtain ⟨j1, j2, i3, i4, i5⟩ := iv_b
  have es := lsN_s T S x b
  have hin := lsN_in (S := S) hT hx b hb_b
  have hend : b = T 4 → (lsN T S x (T 4)).1 = x1 := fun q => by rw [← q, j1]
  generalize lsN T S x b = p at es hin j1 j2 i5
  have hal := al_in (tFl T b) (T 2) p.2.2
  have hI2 : CI hp t T S := hI.to2 i3 (fun o o1 o2 => i4 o (by omega)) (fun o o1 o2 => i4 o (by omega))
  obtain ⟨-, hP2, -, -, hA2, hB2, hN2⟩ := id hI2
  have h22 := hT.2.2.1
  have hj2 : (p.1 = -2 ∧ x2 = 0) ∨ (p.1 ≠ -2 ∧ x2 = p.2.1) := by split at j2 <;> omega
  refine gj_iload (pc' := 11) dX6_latestBird_9 rfl rfl ?_
  refine gj_aload_n (pc' := 12) dX6_latestBird_11 rfl rfl ?_
  refine gf_X6_20 (pc' := 15) dX6_latestBird_12 rfl (by first | rfl | assumption) rfl ?_
  rw [hA2.1 4 (by omega)]
  refine gj_icmp_ge (pc' := 18) (tgt := 92) dX6_latestBird_15 (by decide) rfl (by omega) (fun c15 => ?_) (fun c15 => ?_)
  · refine gj_iload_n (pc' := 93) dX6_latestBird_92 rfl rfl ?_
    refine gj_iret rfl dX6_latestBird_93 ?_
    exact ⟨by rw [hend (by omega)], i3, i4⟩
  · refine gj_iload_n (pc' := 19) dX6_latestBird_18 rfl rfl ?_
    refine gj_iload (pc' := 21) dX6_latestBird_19 rfl rfl ?_
    refine gj_ishr (pc' := 22) dX6_latestBird_21 rfl ?_
    refine gj_iconst (pc' := 23) dX6_latestBird_22 rfl ?_
    refine gj_iand (pc' := 24) dX6_latestBird_23 rfl ?_
    rw [bt_bit (by omega) (by omega)]
    first | refine gj_ifB_ne (pc' := 27) (tgt := 30) dX6_latestBird_24 (by decide) rfl (fun c24 => ?_) (fun c24 => ?_) | refine gj_if_ne (pc' := 27) (tgt := 30) dX6_latestBird_24 (by decide) rfl (by omega) (fun c24 => ?_) (fun c24 => ?_)
    · refine gj_aload_n (pc' := 31) dX6_latestBird_30 rfl rfl ?_
      refine gj_aload_n (pc' := 32) dX6_latestBird_31 rfl rfl ?_
      refine gf_X6_25 (pc' := 35) dX6_latestBird_32 rfl (by first | rfl | assumption) rfl ?_
      refine gj_iload (pc' := 37) dX6_latestBird_35 rfl rfl ?_
      refine gj_iald (pc' := 38) (by first | rfl | assumption) rfl (by omega) (by decide) dX6_latestBird_37 rfl ?_
      rw [(hB2 b (by omega)).2]
      refine gj_aload_n (pc' := 39) dX6_latestBird_38 rfl rfl ?_
      refine gf_X6_29 (pc' := 42) dX6_latestBird_39 rfl (by first | rfl | assumption) rfl ?_
      rw [hA2.1 2 (by omega)]
      refine gc_X6_32 (pc' := 45) dX6_latestBird_42 rfl (s_daysAloft (x := p.2.2) i5 hin.2 (by have := tFl_le hT (b := b) (by omega); omega) h22) rfl (by first | rfl | assumption) (by decide) rfl (Nat.le_of_ble_eq_true rfl) (fun v9 h9 q9 => ?_)
      obtain ⟨rfl, d0, d1, d2⟩ := q9
      obtain ⟨hd, rfl⟩ : ∃ x, x = h9 := ⟨h9, rfl⟩
      have h9b := (hT.2.2.2.2.2.2.2.2.1 b (by omega)).2.2.2.2.1
      generalize sdN p.2.2 (alE (tFl T b) (T 2) p.2.2) = e2 at es d2
      generalize alF (tFl T b) (T 2) p.2.2 = al at es hal ⊢
      show gJ _ _ _ _ _ _ _ (.int (zI _) :: _) _ _
      refine gj_istore (pc' := 47) dX6_latestBird_45 rfl (by decide) ?_
      refine gj_aload_n (pc' := 48) dX6_latestBird_47 rfl rfl ?_
      refine gf_X6_36 (pc' := 51) dX6_latestBird_48 rfl (by first | rfl | assumption) rfl ?_
      refine gj_iload (pc' := 53) dX6_latestBird_51 rfl rfl ?_
      refine gj_iald (pc' := 54) (by first | rfl | assumption) rfl (by omega) (by decide) dX6_latestBird_53 rfl ?_
      rw [d1 _ (by omega), (hA2.2.2 b (by omega)).2.2.2.1]
      refine gj_iload (pc' := 56) dX6_latestBird_54 rfl rfl ?_
      refine gj_iadd (pc' := 57) dX6_latestBird_56 rfl ?_
      refine gj_istore (pc' := 59) dX6_latestBird_57 rfl (by decide) ?_
      refine gj_iload (pc' := 61) dX6_latestBird_59 rfl rfl ?_
      refine gj_bipush (pc' := 63) dX6_latestBird_61 rfl (by decide) ?_
      refine gj_icmp_eq (pc' := 66) (tgt := 86) dX6_latestBird_63 (by decide) rfl (by omega) (fun c63 => ?_) (fun c63 => ?_)
      · refine gj_iinc (pc' := 89) dX6_latestBird_86 rfl rfl (by decide) ?_
        refine gj_goto (pc' := 9) dX6_latestBird_89 (by decide) ?_
        refine gJ_wk (ih_b ?x1_2 ?x2_2 _ (by omega) ?iv_2) ?ll_2
        case ll_2 =>
          repeat' (first | exact True.intro | with_reducible exact rfl | refine And.intro ?_ ?_ | refine vI ?_ | refine vL ?_)
          all_goals omega
        first
        | (rw [es, if_neg (by rw [hpb b (by omega)] at c24; simpa using c24)]
           first
           | (rw [if_pos (by omega)]; exact ⟨j1, j2, d0.trans i3, fun o ho => (d1 o ho).trans (i4 o ho), d2⟩)
           | (rw [if_neg (by omega)]; exact ⟨rfl, by show _ = (if (b : Int) = -2 then (0 : Int) else _); rw [if_neg (by omega)], d0.trans i3, fun o ho => (d1 o ho).trans (i4 o ho), d2⟩))
        | (rw [es, if_pos (by rw [hpb b (by omega)] at c24; simpa using c24)]; exact ⟨j1, j2, i3, i4, i5⟩)
      · refine gj_iload_n (pc' := 67) dX6_latestBird_66 rfl rfl ?_
        refine gj_bipush (pc' := 69) dX6_latestBird_67 rfl (by decide) ?_
        refine gj_icmp_eq (pc' := 72) (tgt := 79) dX6_latestBird_69 (by decide) rfl (by omega) (fun c69 => ?_) (fun c69 => ?_)
        · refine gj_iload (pc' := 81) dX6_latestBird_79 rfl rfl ?_
          refine gj_istore_n (pc' := 82) dX6_latestBird_81 rfl (by decide) ?_
          refine gj_iload (pc' := 84) dX6_latestBird_82 rfl rfl ?_
          refine gj_istore (pc' := 86) dX6_latestBird_84 rfl (by decide) ?_
          refine gj_iinc (pc' := 89) dX6_latestBird_86 rfl rfl (by decide) ?_
          refine gj_goto (pc' := 9) dX6_latestBird_89 (by decide) ?_
          refine gJ_wk (ih_b ?x1_3 ?x2_3 _ (by omega) ?iv_3) ?ll_3
          case ll_3 =>
            repeat' (first | exact True.intro | with_reducible exact rfl | refine And.intro ?_ ?_ | refine vI ?_ | refine vL ?_)
            all_goals omega
          first
          | (rw [es, if_neg (by rw [hpb b (by omega)] at c24; simpa using c24)]
             first
             | (rw [if_pos (by omega)]; exact ⟨j1, j2, d0.trans i3, fun o ho => (d1 o ho).trans (i4 o ho), d2⟩)
             | (rw [if_neg (by omega)]; exact ⟨rfl, by show _ = (if (b : Int) = -2 then (0 : Int) else _); rw [if_neg (by omega)], d0.trans i3, fun o ho => (d1 o ho).trans (i4 o ho), d2⟩))
          | (rw [es, if_pos (by rw [hpb b (by omega)] at c24; simpa using c24)]; exact ⟨j1, j2, i3, i4, i5⟩)
        · refine gj_iload (pc' := 74) dX6_latestBird_72 rfl rfl ?_
          refine gj_iload (pc' := 76) dX6_latestBird_74 rfl rfl ?_
          refine gj_icmp_le (pc' := 79) (tgt := 86) dX6_latestBird_76 (by decide) rfl (by omega) (fun c76 => ?_) (fun c76 => ?_)
          · refine gj_iinc (pc' := 89) dX6_latestBird_86 rfl rfl (by decide) ?_
            refine gj_goto (pc' := 9) dX6_latestBird_89 (by decide) ?_
            refine gJ_wk (ih_b ?x1_4 ?x2_4 _ (by omega) ?iv_4) ?ll_4
            case ll_4 =>
              repeat' (first | exact True.intro | with_reducible exact rfl | refine And.intro ?_ ?_ | refine vI ?_ | refine vL ?_)
              all_goals omega
            first
            | (rw [es, if_neg (by rw [hpb b (by omega)] at c24; simpa using c24)]
               first
               | (rw [if_pos (by omega)]; exact ⟨j1, j2, d0.trans i3, fun o ho => (d1 o ho).trans (i4 o ho), d2⟩)
               | (rw [if_neg (by omega)]; exact ⟨rfl, by show _ = (if (b : Int) = -2 then (0 : Int) else _); rw [if_neg (by omega)], d0.trans i3, fun o ho => (d1 o ho).trans (i4 o ho), d2⟩))
            | (rw [es, if_pos (by rw [hpb b (by omega)] at c24; simpa using c24)]; exact ⟨j1, j2, i3, i4, i5⟩)
          · refine gj_iload (pc' := 81) dX6_latestBird_79 rfl rfl ?_
            refine gj_istore_n (pc' := 82) dX6_latestBird_81 rfl (by decide) ?_
            refine gj_iload (pc' := 84) dX6_latestBird_82 rfl rfl ?_
            refine gj_istore (pc' := 86) dX6_latestBird_84 rfl (by decide) ?_
            refine gj_iinc (pc' := 89) dX6_latestBird_86 rfl rfl (by decide) ?_
            refine gj_goto (pc' := 9) dX6_latestBird_89 (by decide) ?_
            refine gJ_wk (ih_b ?x1_5 ?x2_5 _ (by omega) ?iv_5) ?ll_5
            case ll_5 =>
              repeat' (first | exact True.intro | with_reducible exact rfl | refine And.intro ?_ ?_ | refine vI ?_ | refine vL ?_)
              all_goals omega
            first
            | (rw [es, if_neg (by rw [hpb b (by omega)] at c24; simpa using c24)]
               first
               | (rw [if_pos (by omega)]; exact ⟨j1, j2, d0.trans i3, fun o ho => (d1 o ho).trans (i4 o ho), d2⟩)
               | (rw [if_neg (by omega)]; exact ⟨rfl, by show _ = (if (b : Int) = -2 then (0 : Int) else _); rw [if_neg (by omega)], d0.trans i3, fun o ho => (d1 o ho).trans (i4 o ho), d2⟩))
            | (rw [es, if_pos (by rw [hpb b (by omega)] at c24; simpa using c24)]; exact ⟨j1, j2, i3, i4, i5⟩)
    · refine gj_goto (pc' := 86) dX6_latestBird_27 (by decide) ?_
      refine gj_iinc (pc' := 89) dX6_latestBird_86 rfl rfl (by decide) ?_
      refine gj_goto (pc' := 9) dX6_latestBird_89 (by decide) ?_
      refine gJ_wk (ih_b ?x1_6 ?x2_6 _ (by omega) ?iv_6) ?ll_6
      case ll_6 =>
        repeat' (first | exact True.intro | with_reducible exact rfl | refine And.intro ?_ ?_ | refine vI ?_ | refine vL ?_)
        all_goals omega
      first
      | (rw [es, if_neg (by rw [hpb b (by omega)] at c24; simpa using c24)]
         first
         | (rw [if_pos (by omega)]; exact ⟨j1, j2, d0.trans i3, fun o ho => (d1 o ho).trans (i4 o ho), d2⟩)
         | (rw [if_neg (by omega)]; exact ⟨rfl, by show _ = (if (b : Int) = -2 then (0 : Int) else _); rw [if_neg (by omega)], d0.trans i3, fun o ho => (d1 o ho).trans (i4 o ho), d2⟩))
      | (rw [es, if_pos (by rw [hpb b (by omega)] at c24; simpa using c24)]; exact ⟨j1, j2, i3, i4, i5⟩)
theorem x_last {h : gH} {t : Nat} {T S : Nat → Nat} {a : Int} (hQ : XQ h t T S) (ha : inB a) : gSp 12 yX10_last cX10_last 2 (some .int) [.ref 0, .int (zI a)] h (qX (aToN T a (fun x => (lsN T S x (T 4)).1) 65536).1 (aToN T a (fun x => (lsN T S x (T 4)).1) 65536).2 h) := by
  obtain ⟨ht, hP, hF, hZ, -⟩ := id hQ
  obtain ⟨s0, s1, s2, s3, s4, s5, s6, s7, s8, s9, s10⟩ := shT ht
  have ha2 := ha; unfold inB at ha2
  refine gSp_of (by decide +kernel) (Nat.le_of_ble_eq_true rfl) ?_
  show gJ RX10 cX10_last 2 (some .int) _ 0 [some (.ref 0), some (.int (zI a))] [] _ _
  refine gj_aload_n (pc' := 1) dX10_last_0 rfl rfl ?_
  refine gr_X10_169 (pc' := 4) dX10_last_1 rfl (x_hasTown hQ) rfl (by first | rfl | assumption) (by decide) rfl (Nat.le_of_ble_eq_true rfl) ?_
  first | refine gj_ifB_ne (pc' := 7) (tgt := 13) dX10_last_4 (by decide) rfl (fun c4 => ?_) (fun c4 => ?_) | refine gj_if_ne (pc' := 7) (tgt := 13) dX10_last_4 (by decide) rfl (by omega) (fun c4 => ?_) (fun c4 => ?_)
  · first | have g4 := of_decide_eq_true c4 | have g4 := of_decide_eq_false c4 | skip
    refine gj_iload_n (pc' := 14) dX10_last_13 rfl rfl ?_
    refine gj_iconst (pc' := 15) dX10_last_14 rfl ?_
    refine gj_ldcw (z := 65536) (pc' := 18) dX10_last_15 rfl (gtb_at 1098 (by decide +kernel) rfl) ?_
    refine gr_X10_183 (pc' := 21) dX10_last_18 rfl (x_isWithin ha (by unfold inB; omega) (by unfold inB; omega)) rfl (by decide) rfl (Nat.le_of_ble_eq_true rfl) ?_
    first | refine gj_ifB_ne (pc' := 24) (tgt := 30) dX10_last_21 (by decide) rfl (fun c21 => ?_) (fun c21 => ?_) | refine gj_if_ne (pc' := 24) (tgt := 30) dX10_last_21 (by decide) rfl (by omega) (fun c21 => ?_) (fun c21 => ?_)
    · first | have g21 := of_decide_eq_true c21 | have g21 := of_decide_eq_false c21 | skip
      have hI := hQ.ci (by omega)
      obtain ⟨n, rfl⟩ : ∃ n : Nat, a = (n : Int) := ⟨a.toNat, by omega⟩
      have htt : t = 6 ∨ t = 29 := ht
      have hI2 : CI (gui h 141 0 (n : Int)) t T S := hI.to2 rfl (fun o o1 o2 => gui_n (by omega)) (fun o o1 o2 => gui_n (by omega))
      refine gj_aload_n (pc' := 31) dX10_last_30 rfl rfl ?_
      refine gf_X10_47 (pc' := 34) dX10_last_31 rfl (by first | rfl | assumption) rfl ?_
      refine gj_iload_n (pc' := 35) dX10_last_34 rfl rfl ?_
      refine gc_X10_330 (pc' := 38) dX10_last_35 rfl (s_begin) rfl (by first | rfl | assumption) (by decide) rfl (Nat.le_of_ble_eq_true rfl) (fun v9 h9 q9 => ?_)
      obtain ⟨rfl, rfl⟩ := q9
      show gJ _ _ _ _ _ _ _ [] _ _
      refine gj_aload_n (pc' := 39) dX10_last_38 rfl rfl ?_
      refine gj_aload_n (pc' := 40) dX10_last_39 rfl rfl ?_
      refine gf_X10_47 (pc' := 43) dX10_last_40 rfl (by first | rfl | assumption) rfl ?_
      refine gj_aload_n (pc' := 44) dX10_last_43 rfl rfl ?_
      refine gf_X10_54 (pc' := 47) dX10_last_44 rfl (by first | rfl | assumption) rfl ?_
      rw [show (gui h 141 0 (n : Int)).2.2 0 = t from hP]
      refine gj_aload_n (pc' := 48) dX10_last_47 rfl rfl ?_
      refine gf_X10_19 (pc' := 51) dX10_last_48 rfl (by first | rfl | assumption) rfl ?_
      refine gj_aload_n (pc' := 52) dX10_last_51 rfl rfl ?_
      refine gf_X10_54 (pc' := 55) dX10_last_52 rfl (by first | rfl | assumption) rfl ?_
      rw [show (gui h 141 0 (n : Int)).2.2 0 = t from hP]
      refine gr_X10_173 (pc' := 58) dX10_last_55 rfl (s_present hI2) rfl (by first | rfl | assumption) (by decide) rfl (Nat.le_of_ble_eq_true rfl) ?_
      refine gc_X10_339 (pc' := 61) dX10_last_58 rfl (s_latest (x := n) hI2 (by rw [gui_s, up1_s]) (by omega)) rfl (by first | rfl | assumption) (by decide) rfl (Nat.le_of_ble_eq_true rfl) (fun v9 h9 q9 => ?_)
      obtain ⟨rfl, d0, d1⟩ := q9
      obtain ⟨hd, rfl⟩ : ∃ x, x = h9 := ⟨h9, rfl⟩
      show gJ _ _ _ _ _ _ _ (.int (zI _) :: _) _ _
      refine gc_X10_105 (pc' := 64) dX10_last_61 rfl (x_grant) rfl (by first | rfl | assumption) (by decide) rfl (Nat.le_of_ble_eq_true rfl) (fun v9 h9 q9 => ?_)
      obtain ⟨rfl, q9a, q9b⟩ := q9
      show gJ _ _ _ _ _ _ _ (.int (zI _) :: _) _ _
      refine gj_iret rfl dX10_last_64 ?_
      exact qX_i (by unfold aToN; rw [if_pos (by omega), if_pos (by omega)]; simp only [Int.toNat_natCast]) (XS.tr ⟨d0, fun o _ _ _ _ _ o1 _ _ => (d1 o o1).trans (gui_n o1), fun k _ => congrFun ((d1 0 (by decide)).trans (gui_n (by decide))) k⟩ q9a) q9b
    · first | have g21 := of_decide_eq_true c21 | have g21 := of_decide_eq_false c21 | skip
      refine gj_aload_n (pc' := 25) dX10_last_24 rfl rfl ?_
      refine gj_iconst (pc' := 26) dX10_last_25 rfl ?_
      refine gc_X10_72 (pc' := 29) dX10_last_26 rfl (x_refuse) rfl (by first | rfl | assumption) (by decide) rfl (Nat.le_of_ble_eq_true rfl) (fun v9 h9 q9 => ?_)
      obtain ⟨rfl, q9a, q9b⟩ := q9
      show gJ _ _ _ _ _ _ _ (.int (zI (-1)) :: _) _ _
      refine gj_iret rfl dX10_last_29 ?_
      exact qX_i (by unfold aToN; (try simp only [Int.toNat_natCast]); repeat' (first | (exfalso; omega) | split | rfl | simp_all)) q9a q9b
  · first | have g4 := of_decide_eq_true c4 | have g4 := of_decide_eq_false c4 | skip
    refine gj_aload_n (pc' := 8) dX10_last_7 rfl rfl ?_
    refine gj_iconst (pc' := 9) dX10_last_8 rfl ?_
    refine gc_X10_72 (pc' := 12) dX10_last_9 rfl (x_refuse) rfl (by first | rfl | assumption) (by decide) rfl (Nat.le_of_ble_eq_true rfl) (fun v9 h9 q9 => ?_)
    obtain ⟨rfl, q9a, q9b⟩ := q9
    show gJ _ _ _ _ _ _ _ (.int (zI (-1)) :: _) _ _
    refine gj_iret rfl dX10_last_12 ?_
    exact qX_i (by unfold aToN; (try simp only [Int.toNat_natCast]); repeat' (first | (exfalso; omega) | split | rfl | simp_all)) q9a q9b
