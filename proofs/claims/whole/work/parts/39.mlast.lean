/-! the model: the bird that comes last -/
theorem m_lastQ {h : gH} {T S : Nat → Nat} {a : Int} (hQ : mQ h T S) (ha : inB a) : gSp 12 yX11_last cX11_last 7 (some .int) [.ref 142, .int (zI a)] h (qM (aToN T a (fun x => (lsN T S x (T 4)).1) 65536).1 (aToN T a (fun x => (lsN T S x (T 4)).1) 65536).2 h) := by
  obtain ⟨hA, hH, hZ, -⟩ := id hQ
  have hH2 : (mG h).1 142 14 = bI (decide (T 3 ≠ 0)) := hH
  have ha2 := ha
  unfold inB at ha2
  refine gSp_of (by decide +kernel) (Nat.le_of_ble_eq_true rfl) ?_
  show gJ RX11 cX11_last 7 (some .int) _ 0 [some (.ref 142), some (.int (zI a)), none, none, none, none, none] [] _ _
  refine gj_aload_n (pc' := 1) dX11_last_0 rfl rfl ?_
  refine gc_X11_153 (pc' := 4) dX11_last_1 rfl (m_good) rfl (by first | rfl | assumption) (by decide) rfl (Nat.le_of_ble_eq_true rfl) (fun v9 h9 q9 => ?_)
  obtain ⟨rfl, rfl⟩ := q9
  show gJ _ _ _ _ _ _ _ [] _ _
  refine gj_aload_n (pc' := 5) dX11_last_4 rfl rfl ?_
  refine gj_aload_n (pc' := 6) dX11_last_5 rfl rfl ?_
  refine gf_X11_166 (pc' := 9) dX11_last_6 rfl (by first | rfl | assumption) rfl ?_
  rw [hH2]
  refine gj_iload_n (pc' := 10) dX11_last_9 rfl rfl ?_
  refine gj_ldcw (z := 65536) (pc' := 13) dX11_last_10 rfl (gtb_at 1865 (by decide +kernel) rfl) ?_
  refine gr_X11_298 (pc' := 16) dX11_last_13 rfl (m_why ha2 (by omega)) rfl (by first | rfl | assumption) (by decide) rfl (Nat.le_of_ble_eq_true rfl) ?_
  obtain ⟨w, hw, hw2⟩ := why_cs (C := T 3 ≠ 0) (b := a) (m := 65536)
  rw [hw]
  refine gj_istore_n (pc' := 17) dX11_last_16 rfl (by decide) ?_
  refine gj_iload_n (pc' := 18) dX11_last_17 rfl rfl ?_
  refine gj_if_eq (pc' := 21) (tgt := 27) dX11_last_18 (by decide) rfl (by omega) (fun c18 => ?_) (fun c18 => ?_)
  · first | have g18 := of_decide_eq_true c18 | have g18 := of_decide_eq_false c18 | skip
    obtain ⟨n, rfl⟩ : ∃ n : Nat, a = (n : Int) := ⟨a.toNat, by omega⟩
    have hM : MI (mG h) T S := hQ.mi (by omega)
    obtain ⟨hA2, hT, hS⟩ := id hM
    have h3 := hT.2.2.2.1
    have h4 : T 4 ≤ 7 := hT.2.2.2.2.1
    have g19 := sv19 hT hS
    have hx : n < 65537 := by omega
    refine gj_aload_n (pc' := 28) dX11_last_27 rfl rfl ?_
    refine gj_iload_n (pc' := 29) dX11_last_28 rfl rfl ?_
    refine gp_X11_394 (pc' := 32) dX11_last_29 rfl (by first | rfl | assumption) rfl ?_
    refine gj_bipush (pc' := 34) dX11_last_32 rfl (by decide) ?_
    refine gj_istore_n (pc' := 35) dX11_last_34 rfl (by decide) ?_
    refine gj_iconst (pc' := 36) dX11_last_35 rfl ?_
    refine gj_istore (pc' := 38) dX11_last_36 rfl (by decide) ?_
    refine gj_iconst (pc' := 39) dX11_last_38 rfl ?_
    refine gj_istore (pc' := 41) dX11_last_39 rfl (by decide) ?_
    refine gJ_wk (gJ_fH2 (L := fun b x1 x2 => [some (.ref 142), some (.int (zI (n : Int))), some (.int (zI w)), some (.int (zI x1)), some (.int (zI x2)), some (.int (zI (b : Int))), none]) (I := fun b x1 x2 hp => x1 = (lsN T S n b).1 ∧ x2 = (lsN T S n b).2.1 ∧ hp.2 = (mG h).2 ∧ (∀ o, o ≠ 142 → hp.1 o = (mG h).1 o) ∧ (∀ k, k ≠ 34 → hp.1 142 k = (mG h).1 142 k) ∧ hp.1 142 34 = ((lsN T S n b).2.2 : Int)) (T 4) (fun b x1 x2 hp hb_b iv_b ih_b => ?step_1) (0) (Nat.zero_le _) ?x10_1 ?x20_1 _ ?iv0_1) ?ll0_1
    case ll0_1 =>
      repeat' (first | exact True.intro | with_reducible exact rfl | refine And.intro ?_ ?_ | refine vI ?_ | refine vL ?_)
      all_goals first | rfl | omega
    case iv0_1 =>
      exact ⟨rfl, rfl, rfl, fun _ ho => gui_n ho, fun k hk => by rw [gui_s, up1_n hk], by rw [gui_s, up1_s]; rfl⟩
    obtain ⟨j1, j2, i3, i4, i5, i6⟩ := iv_b
    have es := lsN_s T S n b
    have hin := lsN_in (S := S) hT hx b hb_b
    have hend : b = T 4 → (lsN T S n (T 4)).1 = x1 := fun q => by rw [← q, j1]
    generalize lsN T S n b = p at es hin j1 j2 i6
    have hal := al_in (tFl T b) (T 2) p.2.2
    have hM2 : MI hp T S := hM.nt (i4 145 (by decide)) (i4 147 (by decide))
    have hA3 := hM2.1
    refine gj_iload (pc' := 43) dX11_last_41 rfl rfl ?_
    refine gj_aload_n (pc' := 44) dX11_last_43 rfl rfl ?_
    refine gf_X11_20 (pc' := 47) dX11_last_44 rfl (by first | rfl | assumption) rfl ?_
    refine gj_iconst (pc' := 48) dX11_last_47 rfl ?_
    refine gj_iald (pc' := 49) (j := 4) (by first | rfl | assumption) (by omega) (by omega) (by decide) dX11_last_48 rfl ?_
    rw [hA3.1 4 (by omega)]
    refine gj_icmp_ge (pc' := 52) (tgt := 132) dX11_last_49 (by decide) rfl (by omega) (fun c49 => ?_) (fun c49 => ?_)
    · refine gj_iload_n (pc' := 133) dX11_last_132 rfl rfl ?_
      refine gj_iret rfl dX11_last_133 ?_
      obtain ⟨g1, g2, g3, g4⟩ := MS.good h
      exact qM_i (tr := 0) (by unfold aToN; rw [if_pos (by omega), if_pos (by omega)]; simp only [Int.toNat_natCast]; rw [hend (by omega)]) ⟨i3.trans g1, fun o a a1 a2 a3 a4 a5 a6 => (i4 o a).trans (g2 o a a1 a2 a3 a4 a5 a6), fun k b0 b11 b24 => (i5 k (by omega)).trans (g3 k b0 b11 b24), (i5 0 (by decide)).trans g4⟩ ((i5 11 (by decide)).trans rfl)
    · refine gj_aload_n (pc' := 53) dX11_last_52 rfl rfl ?_
      refine gj_iload (pc' := 55) dX11_last_53 rfl rfl ?_
      refine gr_X11_262 (pc' := 58) dX11_last_55 rfl (m_isGone hA3 g19 (by omega)) rfl (by first | rfl | assumption) (by decide) rfl (Nat.le_of_ble_eq_true rfl) ?_
      first | refine gj_ifB_eq (pc' := 61) (tgt := 66) dX11_last_58 (by decide) rfl (fun c58 => ?_) (fun c58 => ?_) | refine gj_if_eq (pc' := 61) (tgt := 66) dX11_last_58 (by decide) rfl (by omega) (fun c58 => ?_) (fun c58 => ?_)
      · first | have g58 := of_decide_eq_true c58 | have g58 := of_decide_eq_false c58 | skip
        refine gj_aload_n (pc' := 67) dX11_last_66 rfl rfl ?_
        refine gj_iload (pc' := 69) dX11_last_67 rfl rfl ?_
        refine gc_X11_399 (pc' := 72) dX11_last_69 rfl (m_aloftOf (S := S) (b := b) (x := p.2.2) hM2 (by omega) i6 hin.2) rfl (by first | rfl | assumption) (by decide) rfl (Nat.le_of_ble_eq_true rfl) (fun v9 h9 q9 => ?_)
        obtain ⟨rfl, d0, d1, d2, d3⟩ := q9
        obtain ⟨hd, rfl⟩ : ∃ x, x = h9 := ⟨h9, rfl⟩
        have h9b := (hT.2.2.2.2.2.2.2.2.1 b (by omega)).2.2.2.2.1
        generalize sdN p.2.2 (alE (tFl T b) (T 2) p.2.2) = e2 at es d3
        generalize alF (tFl T b) (T 2) p.2.2 = al at es hal ⊢
        show gJ _ _ _ _ _ _ _ (.int (zI _) :: _) _ _
        refine gj_istore (pc' := 74) dX11_last_72 rfl (by decide) ?_
        refine gj_iload (pc' := 76) dX11_last_74 rfl rfl ?_
        refine gj_if_lt (pc' := 79) (tgt := 126) dX11_last_76 (by decide) rfl (by omega) (fun c76 => ?_) (fun c76 => ?_)
        · first | have g76 := of_decide_eq_true c76 | have g76 := of_decide_eq_false c76 | skip
          refine gj_iinc (pc' := 129) dX11_last_126 rfl rfl (by decide) ?_
          refine gj_goto (pc' := 41) dX11_last_129 (by decide) ?_
          refine gJ_wk (ih_b ?x1_2 ?x2_2 _ (by omega) ?iv_2) ?ll_2
          case ll_2 =>
            repeat' (first | exact True.intro | with_reducible exact rfl | refine And.intro ?_ ?_ | refine vI ?_ | refine vL ?_)
            all_goals omega
          first
          | (rw [es, if_pos c58]; exact ⟨j1, j2, i3, i4, i5, i6⟩)
          | (rw [es, if_neg (by rw [c58]; decide)]
             first
             | (rw [if_pos (by omega)]; exact ⟨j1, j2, d0.trans i3, fun o ho => (d1 o ho).trans (i4 o ho), fun k hk => (d2 k hk).trans (i5 k hk), d3⟩)
             | (rw [if_neg (by omega)]; exact ⟨rfl, rfl, d0.trans i3, fun o ho => (d1 o ho).trans (i4 o ho), fun k hk => (d2 k hk).trans (i5 k hk), d3⟩))
        · first | have g76 := of_decide_eq_true c76 | have g76 := of_decide_eq_false c76 | skip
          refine gj_aload_n (pc' := 80) dX11_last_79 rfl rfl ?_
          refine gf_X11_20 (pc' := 83) dX11_last_80 rfl (by first | rfl | assumption) rfl ?_
          refine gj_bipush (pc' := 85) dX11_last_83 rfl (by decide) ?_
          refine gj_iconst (pc' := 86) dX11_last_85 rfl ?_
          refine gj_iload (pc' := 88) dX11_last_86 rfl rfl ?_
          refine gj_imul (pc' := 89) dX11_last_88 rfl ?_
          refine gj_iadd (pc' := 90) dX11_last_89 rfl ?_
          refine gj_iconst (pc' := 91) dX11_last_90 rfl ?_
          refine gj_iadd (pc' := 92) dX11_last_91 rfl ?_
          refine gj_iald (pc' := 93) (j := 22 + 5 * b) (by first | rfl | assumption) (by omega) (by omega) (by decide) dX11_last_92 rfl ?_
          rw [d1 _ (by omega), hA3.1 _ (by omega)]
          refine gj_iload (pc' := 95) dX11_last_93 rfl rfl ?_
          refine gj_iadd (pc' := 96) dX11_last_95 rfl ?_
          refine gj_iload (pc' := 98) dX11_last_96 rfl rfl ?_
          refine gj_icmp_gt (pc' := 101) (tgt := 104) dX11_last_98 (by decide) rfl (by omega) (fun c98 => ?_) (fun c98 => ?_)
          · refine gj_iload (pc' := 106) dX11_last_104 rfl rfl ?_
            refine gj_istore_n (pc' := 107) dX11_last_106 rfl (by decide) ?_
            refine gj_aload_n (pc' := 108) dX11_last_107 rfl rfl ?_
            refine gf_X11_20 (pc' := 111) dX11_last_108 rfl (by first | rfl | assumption) rfl ?_
            refine gj_bipush (pc' := 113) dX11_last_111 rfl (by decide) ?_
            refine gj_iconst (pc' := 114) dX11_last_113 rfl ?_
            refine gj_iload (pc' := 116) dX11_last_114 rfl rfl ?_
            refine gj_imul (pc' := 117) dX11_last_116 rfl ?_
            refine gj_iadd (pc' := 118) dX11_last_117 rfl ?_
            refine gj_iconst (pc' := 119) dX11_last_118 rfl ?_
            refine gj_iadd (pc' := 120) dX11_last_119 rfl ?_
            refine gj_iald (pc' := 121) (j := 22 + 5 * b) (by first | rfl | assumption) (by omega) (by omega) (by decide) dX11_last_120 rfl ?_
            rw [d1 _ (by omega), hA3.1 _ (by omega)]
            refine gj_iload (pc' := 123) dX11_last_121 rfl rfl ?_
            refine gj_iadd (pc' := 124) dX11_last_123 rfl ?_
            refine gj_istore (pc' := 126) dX11_last_124 rfl (by decide) ?_
            refine gj_iinc (pc' := 129) dX11_last_126 rfl rfl (by decide) ?_
            refine gj_goto (pc' := 41) dX11_last_129 (by decide) ?_
            refine gJ_wk (ih_b ?x1_3 ?x2_3 _ (by omega) ?iv_3) ?ll_3
            case ll_3 =>
              repeat' (first | exact True.intro | with_reducible exact rfl | refine And.intro ?_ ?_ | refine vI ?_ | refine vL ?_)
              all_goals omega
            first
            | (rw [es, if_pos c58]; exact ⟨j1, j2, i3, i4, i5, i6⟩)
            | (rw [es, if_neg (by rw [c58]; decide)]
               first
               | (rw [if_pos (by omega)]; exact ⟨j1, j2, d0.trans i3, fun o ho => (d1 o ho).trans (i4 o ho), fun k hk => (d2 k hk).trans (i5 k hk), d3⟩)
               | (rw [if_neg (by omega)]; exact ⟨rfl, rfl, d0.trans i3, fun o ho => (d1 o ho).trans (i4 o ho), fun k hk => (d2 k hk).trans (i5 k hk), d3⟩))
          · refine gj_goto (pc' := 126) dX11_last_101 (by decide) ?_
            refine gj_iinc (pc' := 129) dX11_last_126 rfl rfl (by decide) ?_
            refine gj_goto (pc' := 41) dX11_last_129 (by decide) ?_
            refine gJ_wk (ih_b ?x1_4 ?x2_4 _ (by omega) ?iv_4) ?ll_4
            case ll_4 =>
              repeat' (first | exact True.intro | with_reducible exact rfl | refine And.intro ?_ ?_ | refine vI ?_ | refine vL ?_)
              all_goals omega
            first
            | (rw [es, if_pos c58]; exact ⟨j1, j2, i3, i4, i5, i6⟩)
            | (rw [es, if_neg (by rw [c58]; decide)]
               first
               | (rw [if_pos (by omega)]; exact ⟨j1, j2, d0.trans i3, fun o ho => (d1 o ho).trans (i4 o ho), fun k hk => (d2 k hk).trans (i5 k hk), d3⟩)
               | (rw [if_neg (by omega)]; exact ⟨rfl, rfl, d0.trans i3, fun o ho => (d1 o ho).trans (i4 o ho), fun k hk => (d2 k hk).trans (i5 k hk), d3⟩))
      · first | have g58 := of_decide_eq_true c58 | have g58 := of_decide_eq_false c58 | skip
        refine gj_bipush (pc' := 63) dX11_last_61 rfl (by decide) ?_
        refine gj_goto (pc' := 72) dX11_last_63 (by decide) ?_
        refine gj_istore (pc' := 74) dX11_last_72 rfl (by decide) ?_
        refine gj_iload (pc' := 76) dX11_last_74 rfl rfl ?_
        refine gj_if_lt (pc' := 79) (tgt := 126) dX11_last_76 (by decide) rfl (by omega) (fun c76 => ?_) (fun c76 => ?_)
        · first | have g76 := of_decide_eq_true c76 | have g76 := of_decide_eq_false c76 | skip
          refine gj_iinc (pc' := 129) dX11_last_126 rfl rfl (by decide) ?_
          refine gj_goto (pc' := 41) dX11_last_129 (by decide) ?_
          refine gJ_wk (ih_b ?x1_5 ?x2_5 _ (by omega) ?iv_5) ?ll_5
          case ll_5 =>
            repeat' (first | exact True.intro | with_reducible exact rfl | refine And.intro ?_ ?_ | refine vI ?_ | refine vL ?_)
            all_goals omega
          first
          | (rw [es, if_pos c58]; exact ⟨j1, j2, i3, i4, i5, i6⟩)
          | (rw [es, if_neg (by rw [c58]; decide)]
             first
             | (rw [if_pos (by omega)]; exact ⟨j1, j2, d0.trans i3, fun o ho => (d1 o ho).trans (i4 o ho), fun k hk => (d2 k hk).trans (i5 k hk), d3⟩)
             | (rw [if_neg (by omega)]; exact ⟨rfl, rfl, d0.trans i3, fun o ho => (d1 o ho).trans (i4 o ho), fun k hk => (d2 k hk).trans (i5 k hk), d3⟩))
        · exfalso; omega
  · first | have g18 := of_decide_eq_true c18 | have g18 := of_decide_eq_false c18 | skip
    refine gj_aload_n (pc' := 22) dX11_last_21 rfl rfl ?_
    refine gj_iload_n (pc' := 23) dX11_last_22 rfl rfl ?_
    refine gc_X11_156 (pc' := 26) dX11_last_23 rfl (m_no) rfl (by first | rfl | assumption) (by decide) rfl (Nat.le_of_ble_eq_true rfl) (fun v9 h9 q9 => ?_)
    obtain ⟨rfl, rfl⟩ := q9
    show gJ _ _ _ _ _ _ _ (.int (zI (-1)) :: _) _ _
    refine gj_iret rfl dX11_last_26 ?_
    exact qM_n (by unfold aToN; repeat' (first | (exfalso; omega) | split | rfl | (congr 1; omega) | simp_all))
