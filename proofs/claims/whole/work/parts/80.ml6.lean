/-! the model's reader: the line of what was seen -/
def lnK1 (B : Nat → Nat) (e : Nat) (T : Nat → Nat) (q : Nat) : Nat × Nat × (Nat → Nat) := bd (ptH B e T (-1) q) (fun a p1 => bd (ptW B e 16 p1) (fun _ p2 => bd (ptI B e 0 30 p2) (fun d p3 => if sawS T a d = true then (3, tS B e p2, fun _ => 0) else bd (ptN B e 18 0 9 p3) (fun n p4 => (0, p4, uT (uT (uT (uT T (60 + 3 * T 6) a) (61 + 3 * T 6) d) (62 + 3 * T 6) n) 6 (T 6 + 1))))))
theorem lnK1_e (B : Nat → Nat) (e : Nat) (T : Nat → Nat) (p : Nat) : lnK B e T p = lnK1 B e T (tEn B e p) := rfl
def mtS (T : Nat → Nat) (a d k : Nat) : Prop := T (60 + 3 * k) = a ∧ T (61 + 3 * k) = d
theorem m_seenLine {h : gH} {B : Nat → Nat} {e : Nat} {T : Nat → Nat} {x : Nat × Nat} {R : Nat × Nat × (Nat → Nat)} (hM : MM h B e T x) (hx : x.1 = 0 → NU T ∧ T 6 < 5 ∧ ∀ k, k < T 6 → T (60 + 3 * k) < 6 ∧ T (61 + 3 * k) ≤ 30) (c0 : chR x R (lnK1 B e T x.2)) : gSp 9 yX11_seenLine cX11_seenLine 5 none [.ref 142] h (fun v h' => v = none ∧ mlE h h' ∧ MG h' B e R) := by
  have hfl := hM.fl
  refine gSp_of (by decide +kernel) (Nat.le_of_ble_eq_true rfl) ?_
  show gJ RX11 cX11_seenLine 5 none _ 0 [some (.ref 142), none, none, none, none] [] _ _
  refine gj_aload_n (pc' := 1) dX11_seenLine_0 rfl rfl ?_
  refine gf_X11_91 (pc' := 4) dX11_seenLine_1 rfl (by first | rfl | assumption) rfl ?_
  rw [hfl]
  first | refine gj_ifB_eq (pc' := 7) (tgt := 8) dX11_seenLine_4 (by decide) rfl (fun c4 => ?_) (fun c4 => ?_) | refine gj_if_eq (pc' := 7) (tgt := 8) dX11_seenLine_4 (by decide) rfl (by omega) (fun c4 => ?_) (fun c4 => ?_)
  · first | have g4 := of_decide_eq_true c4 | have g4 := of_decide_eq_false c4 | skip
    have g0 : x.1 = 0 := Decidable.of_not_not g4
    have hF := (hM.1 g0).2.2
    obtain ⟨hU, h6, hb6⟩ := hx g0
    refine gj_bipush (pc' := 10) dX11_seenLine_8 rfl (by decide) ?_
    refine gj_iconst (pc' := 11) dX11_seenLine_10 rfl ?_
    refine gj_aload_n (pc' := 12) dX11_seenLine_11 rfl rfl ?_
    refine gf_X11_23 (pc' := 15) dX11_seenLine_12 rfl (by first | rfl | assumption) rfl ?_
    refine gj_bipush (pc' := 17) dX11_seenLine_15 rfl (by decide) ?_
    refine gj_iald (pc' := 18) (j := 6) (by first | rfl | assumption) (by omega) (by omega) (by decide) dX11_seenLine_17 rfl ?_
    rw [hF 6 (by decide)]
    refine gj_imul (pc' := 19) dX11_seenLine_18 rfl ?_
    refine gj_iadd (pc' := 20) dX11_seenLine_19 rfl ?_
    refine gj_istore_n (pc' := 21) dX11_seenLine_20 rfl (by decide) ?_
    refine gj_aload_n (pc' := 22) dX11_seenLine_21 rfl rfl ?_
    refine gc_X11_221 (pc' := 25) dX11_seenLine_22 rfl (m_housePassed hM (fun _ => hU)) rfl (by first | rfl | assumption) (by decide) rfl (Nat.le_of_ble_eq_true rfl) (fun v9 h9 q9 => ?_)
    obtain ⟨v1, x1, rfl, k1, hM1, hv1, ch1⟩ := q9
    obtain ⟨ha, rfl⟩ : ∃ x, x = h9 := ⟨h9, rfl⟩
    have c1 := ch1 R _ c0
    show gJ _ _ _ _ _ _ _ (.int (zI (v1 : Int)) :: _) _ _
    refine gj_istore_n (pc' := 26) dX11_seenLine_25 rfl (by decide) ?_
    refine gj_aload_n (pc' := 27) dX11_seenLine_26 rfl rfl ?_
    refine gj_ldcS (pc' := 29) dX11_seenLine_27 rfl (gstr_X11_226) ?_
    refine gc_X11_145 (pc' := 32) dX11_seenLine_29 rfl (m_must (i := 16) hM1 (by decide)) rfl (by first | rfl | assumption) (by decide) rfl (Nat.le_of_ble_eq_true rfl) (fun v9 h9 q9 => ?_)
    obtain ⟨rfl, k2, x2, hM2, ch2⟩ := q9
    obtain ⟨hb, rfl⟩ : ∃ x, x = h9 := ⟨h9, rfl⟩
    have c2 := ch2 R _ c1
    show gJ _ _ _ _ _ _ _ [] _ _
    refine gj_aload_n (pc' := 33) dX11_seenLine_32 rfl rfl ?_
    refine gj_iconst (pc' := 34) dX11_seenLine_33 rfl ?_
    refine gj_bipush (pc' := 36) dX11_seenLine_34 rfl (by decide) ?_
    refine gc_X11_149 (pc' := 39) dX11_seenLine_36 rfl (m_numberHere (lo := 0) (hi := 30) hM2 (by decide)) rfl (by first | rfl | assumption) (by decide) rfl (Nat.le_of_ble_eq_true rfl) (fun v9 h9 q9 => ?_)
    obtain ⟨v2, x3, rfl, k3, hM3, hv2, hq⟩ := q9
    obtain ⟨hc, rfl⟩ : ∃ x, x = h9 := ⟨h9, rfl⟩
    have hF3 : ∀ k, k < 219 → hc.1 146 k = (T k : Int) := fun k hk => by
      rw [k3.2.1 146 (by decide) (by decide), k2.2.1 146 (by decide) (by decide), k1.2.1 146 (by decide) (by decide)]
      exact hF k hk
    have hE3 : mlN h hc := k1.tr (k2.tr k3)
    show gJ _ _ _ _ _ _ _ (.int (zI (v2 : Int)) :: _) _ _
    refine gj_istore_n (pc' := 40) dX11_seenLine_39 rfl (by decide) ?_
    refine gj_iconst (pc' := 41) dX11_seenLine_40 rfl ?_
    refine gj_istore (pc' := 43) dX11_seenLine_41 rfl (by decide) ?_
    refine gJ_wk (gJ_fH0 (L := fun k  => [some (.ref 142), some (.int (zI (60 + 3 * (T 6 : Int)))), some (.int (zI (v1 : Int))), some (.int (zI (v2 : Int))), some (.int (zI (k : Int)))]) (I := fun k  hp => mlN hc hp ∧ ∃ y, MM hp B e T y ∧ ((y = x3 ∧ (x3.1 = 0 → ∀ j, j < k → ¬ mtS T v1 v2 j)) ∨ (x3.1 = 0 ∧ y = (3, tS B e x3.2) ∧ ∃ j, j < k ∧ mtS T v1 v2 j))) (T 6) (fun k  hp hb_k iv_k ih_k => ?step_1) (0) (Nat.zero_le _)  _ ?iv0_1) ?ll0_1
    case ll0_1 =>
      repeat' (first | exact True.intro | with_reducible exact rfl | refine And.intro ?_ ?_ | refine vI ?_ | refine vL ?_)
      all_goals first | rfl | omega
    case iv0_1 =>
      exact ⟨mlN.rf _, x3, hM3, Or.inl ⟨rfl, fun _ j hj => absurd hj (Nat.not_lt_zero j)⟩⟩
    obtain ⟨i1, y, hMy, iy⟩ := iv_k
    have hFp : ∀ k, k < 219 → hp.1 146 k = (T k : Int) := fun k hk => by
      rw [i1.2.1 146 (by decide) (by decide)]
      exact hF3 k hk
    refine gj_iload (pc' := 45) dX11_seenLine_43 rfl rfl ?_
    refine gj_aload_n (pc' := 46) dX11_seenLine_45 rfl rfl ?_
    refine gf_X11_23 (pc' := 49) dX11_seenLine_46 rfl (by first | rfl | assumption) rfl ?_
    refine gj_bipush (pc' := 51) dX11_seenLine_49 rfl (by decide) ?_
    refine gj_iald (pc' := 52) (j := 6) (by first | rfl | assumption) (by omega) (by omega) (by decide) dX11_seenLine_51 rfl ?_
    rw [hFp 6 (by decide)]
    refine gj_icmp_ge (pc' := 55) (tgt := 111) dX11_seenLine_52 (by decide) rfl (by omega) (fun c52 => ?_) (fun c52 => ?_)
    · have hk6 : k = T 6 := by omega
      have hDD : ptI B e 0 30 x2.2 = if tSr B e x2.2 ≠ 2 then (1, tS B e x2.2, 0) else if 0 ≤ tWh B e x2.2 ∧ tWh B e x2.2 ≤ 30 then (0, tWh B e x2.2, tEn B e x2.2) else (4, tS B e x2.2, 0) := rfl
      refine gj_aload_n (pc' := 112) dX11_seenLine_111 rfl rfl ?_
      refine gf_X11_91 (pc' := 115) dX11_seenLine_112 rfl (by first | rfl | assumption) rfl ?_
      rw [hMy.fl]
      first | refine gj_ifB_eq (pc' := 118) (tgt := 119) dX11_seenLine_115 (by decide) rfl (fun c115 => ?_) (fun c115 => ?_) | refine gj_if_eq (pc' := 118) (tgt := 119) dX11_seenLine_115 (by decide) rfl (by omega) (fun c115 => ?_) (fun c115 => ?_)
      · first | have g115 := of_decide_eq_true c115 | have g115 := of_decide_eq_false c115 | skip
        have gy : y.1 = 0 := Decidable.of_not_not g115
        have iz : y = x3 ∧ (x3.1 = 0 → ∀ j, j < k → ¬ mtS T v1 v2 j) := by
          rcases iy with q | ⟨_, q, _⟩
          · exact q
          · rw [q] at gy
            exact absurd (show (3 : Nat) = 0 from gy) (by decide)
        obtain ⟨iz1, iz2⟩ := iz
        have g3 : x3.1 = 0 := by rw [← iz1]; exact gy
        have hq5 : x2.1 = 0 ∧ tSr B e x2.2 = 2 ∧ (0 ≤ v2 ∧ v2 ≤ 30) ∧ v2 = tWh B e x2.2 ∧ x3 = (0, x2.2) := by
          rcases hq with ⟨q1, q2⟩ | ⟨q1, q2, q3⟩ | ⟨q1, q2, q3, q4⟩ | q
          · rw [q2] at g3
            exact absurd g3 q1
          · rw [q3] at g3
            exact absurd (show (1 : Nat) = 0 from g3) (by decide)
          · rw [q4] at g3
            exact absurd (show (4 : Nat) = 0 from g3) (by decide)
          · exact q
        obtain ⟨q1, q2, q3, q4, q5⟩ := hq5
        rw [if_neg (by omega), if_pos (by omega), ← q4] at hDD
        have c3 : chR (0, tEn B e x2.2) R (bd (ptN B e 18 0 9 (tEn B e x2.2)) (fun n p4 => (0, p4, uT (uT (uT (uT T (60 + 3 * T 6) v1) (61 + 3 * T 6) v2) (62 + 3 * T 6) n) 6 (T 6 + 1)))) := by
          have c3 := chR_0 (p := 0) q1 hDD c2
          have hs : sawS T v1 v2 = false := sawS_f (fun k' hk' => iz2 g3 k' (by omega))
          refine ⟨fun _ => ?_, fun z => absurd rfl z⟩
          rw [c3.1 rfl]
          exact if_neg (by rw [hs]; decide)
        have hLy := hMy.1 gy
        rw [iz1, q5] at hLy
        refine gj_aload_n (pc' := 120) dX11_seenLine_119 rfl rfl ?_
        refine gc_X11_112 (pc' := 123) dX11_seenLine_120 rfl (m_nextL hLy) rfl (by first | rfl | assumption) (by decide) rfl (Nat.le_of_ble_eq_true rfl) (fun v9 h9 q9 => ?_)
        obtain ⟨rfl, n1, n2⟩ := q9
        obtain ⟨hd, rfl⟩ : ∃ x, x = h9 := ⟨h9, rfl⟩
        have hM4 : MM hd B e T (0, tEn B e x2.2) := MM.at n2
        show gJ _ _ _ _ _ _ _ [] _ _
        refine gj_aload_n (pc' := 124) dX11_seenLine_123 rfl rfl ?_
        refine gf_X11_23 (pc' := 127) dX11_seenLine_124 rfl (by first | rfl | assumption) rfl ?_
        refine gj_iload_n (pc' := 128) dX11_seenLine_127 rfl rfl ?_
        refine gj_iload_n (pc' := 129) dX11_seenLine_128 rfl rfl ?_
        refine gj_iast (pc' := 130) (j := 60 + 3 * T 6) (by first | rfl | assumption) (by omega) (by omega) (by decide) dX11_seenLine_129 rfl ?_
        refine gj_aload_n (pc' := 131) dX11_seenLine_130 rfl rfl ?_
        refine gf_X11_23 (pc' := 134) dX11_seenLine_131 rfl (by first | rfl | assumption) rfl ?_
        refine gj_iload_n (pc' := 135) dX11_seenLine_134 rfl rfl ?_
        refine gj_iconst (pc' := 136) dX11_seenLine_135 rfl ?_
        refine gj_iadd (pc' := 137) dX11_seenLine_136 rfl ?_
        refine gj_iload_n (pc' := 138) dX11_seenLine_137 rfl rfl ?_
        refine gj_iast (pc' := 139) (j := 61 + 3 * T 6) (by first | rfl | assumption) (by omega) (by omega) (by decide) dX11_seenLine_138 rfl ?_
        refine gj_aload_n (pc' := 140) dX11_seenLine_139 rfl rfl ?_
        refine gf_X11_23 (pc' := 143) dX11_seenLine_140 rfl (by first | rfl | assumption) rfl ?_
        refine gj_iload_n (pc' := 144) dX11_seenLine_143 rfl rfl ?_
        refine gj_iconst (pc' := 145) dX11_seenLine_144 rfl ?_
        refine gj_iadd (pc' := 146) dX11_seenLine_145 rfl ?_
        refine gj_aload_n (pc' := 147) dX11_seenLine_146 rfl rfl ?_
        refine gj_ldcS (pc' := 149) dX11_seenLine_147 rfl (gstr_X11_229) ?_
        refine gj_iconst (pc' := 150) dX11_seenLine_149 rfl ?_
        refine gj_bipush (pc' := 152) dX11_seenLine_150 rfl (by decide) ?_
        refine gc_X11_196 (pc' := 155) dX11_seenLine_152 rfl (m_after (i := 18) (lo := 0) (hi := 9) ((hM4.put (k := 60 + 3 * T 6) (v := v1)).put (k := 61 + 3 * T 6) (v := v2)) (by decide) (by decide)) rfl (by first | rfl | assumption) (by decide) rfl (Nat.le_of_ble_eq_true rfl) (fun v9 h9 q9 => ?_)
        obtain ⟨v3, x5, rfl, k5, hM5, ch5⟩ := q9
        obtain ⟨hf, rfl⟩ : ∃ x, x = h9 := ⟨h9, rfl⟩
        have c5 := ch5 R _ c3
        have hM6 := hM5.put (k := 62 + 3 * T 6) (v := v3)
        have hE : mlE h (gui hf 146 (62 + 3 * T 6) (v3 : Int)) := (hE3.tr (i1.tr n1)).e.tr (mlE.put.tr (mlE.put.tr (k5.e.tr mlE.put)))
        show gJ _ _ _ _ _ _ _ (.int (zI (v3 : Int)) :: _) _ _
        refine gj_iast (pc' := 156) (j := 62 + 3 * T 6) (by first | rfl | assumption) (by omega) (by omega) (by decide) dX11_seenLine_155 rfl ?_
        refine gj_aload_n (pc' := 157) dX11_seenLine_156 rfl rfl ?_
        refine gf_X11_91 (pc' := 160) dX11_seenLine_157 rfl (by first | rfl | assumption) rfl ?_
        rw [hM6.fl]
        first | refine gj_ifB_ne (pc' := 163) (tgt := 174) dX11_seenLine_160 (by decide) rfl (fun c160 => ?_) (fun c160 => ?_) | refine gj_if_ne (pc' := 163) (tgt := 174) dX11_seenLine_160 (by decide) rfl (by omega) (fun c160 => ?_) (fun c160 => ?_)
        · first | have g160 := of_decide_eq_true c160 | have g160 := of_decide_eq_false c160 | skip
          refine gj_vret rfl dX11_seenLine_174 ?_
          first
          | exact ⟨rfl, hE, MG_x g160 hM6 c5⟩
          | exact ⟨rfl, hE.tr mlE.put, MG_e (hM6.put (k := 6) (v := T 6 + 1)) c5⟩
        · first | have g160 := of_decide_eq_true c160 | have g160 := of_decide_eq_false c160 | skip
          refine gj_aload_n (pc' := 164) dX11_seenLine_163 rfl rfl ?_
          refine gf_X11_23 (pc' := 167) dX11_seenLine_164 rfl (by first | rfl | assumption) rfl ?_
          refine gj_bipush (pc' := 169) dX11_seenLine_167 rfl (by decide) ?_
          refine gj_dup2 (pc' := 170) dX11_seenLine_169 rfl rfl rfl ?_
          have gw : x5.1 = 0 := Decidable.of_not_not g160
          have e3 : (gui hf 146 (62 + 3 * T 6) (v3 : Int)).1 146 6 = (T 6 : Int) := by
            rw [hM6.F gw (by decide), uT_n (by omega), uT_n (by omega), uT_n (by omega)]
          refine gj_iald (pc' := 171) (j := 6) (by first | rfl | assumption) (by omega) (by omega) (by decide) dX11_seenLine_170 rfl ?_
          rw [e3]
          refine gj_iconst (pc' := 172) dX11_seenLine_171 rfl ?_
          refine gj_iadd (pc' := 173) dX11_seenLine_172 rfl ?_
          rw [show (T 6 : Int) + 1 = ((T 6 + 1 : Nat) : Int) by omega]
          refine gj_iast (pc' := 174) (j := 6) (by first | rfl | assumption) (by omega) (by omega) (by decide) dX11_seenLine_173 rfl ?_
          refine gj_vret rfl dX11_seenLine_174 ?_
          first
          | exact ⟨rfl, hE, MG_x g160 hM6 c5⟩
          | exact ⟨rfl, hE.tr mlE.put, MG_e (hM6.put (k := 6) (v := T 6 + 1)) c5⟩
      · first | have g115 := of_decide_eq_true c115 | have g115 := of_decide_eq_false c115 | skip
        refine gj_vret rfl dX11_seenLine_118 ?_
        refine ⟨rfl, (hE3.tr i1).e, ?_⟩
        rcases hq with ⟨q1, q2⟩ | ⟨q1, q2, q3⟩ | ⟨q1, q2, q3, q4⟩ | ⟨q1, q2, q3, q4, q5⟩
        · rcases iy with ⟨r1, _⟩ | ⟨r1, _⟩
          · rw [r1, q2] at hMy
            exact MG_x q1 hMy c2
          · rw [q2] at r1
            exact absurd r1 q1
        · rw [if_pos q2] at hDD
          rcases iy with ⟨r1, _⟩ | ⟨r1, _⟩
          · rw [r1, q3] at hMy
            exact MG_x (show ¬ (1 : Nat) = 0 by decide) hMy (chR_1 (K := R) q1 (by decide) hDD c2)
          · rw [q3] at r1
            exact absurd (show (1 : Nat) = 0 from r1) (by decide)
        · rw [if_neg (by omega), if_neg q3] at hDD
          rcases iy with ⟨r1, _⟩ | ⟨r1, _⟩
          · rw [r1, q4] at hMy
            exact MG_x (show ¬ (4 : Nat) = 0 by decide) hMy (chR_1 (K := R) q1 (by decide) hDD c2)
          · rw [q4] at r1
            exact absurd (show (4 : Nat) = 0 from r1) (by decide)
        · rw [if_neg (by omega), if_pos (by omega), ← q4] at hDD
          rcases iy with ⟨r1, _⟩ | ⟨r1, r2, j, r3, r4, r5⟩
          · rw [r1, q5] at g115
            exact absurd rfl g115
          · have c3 := chR_0 (p := 0) q1 hDD c2
            have hs : sawS T v1 v2 = true := sawS_t (k := j) (by omega) r4 r5
            have e1 : R = (3, tS B e x2.2, fun _ => 0) := by
              rw [c3.1 rfl]
              exact if_pos hs
            rw [r2, q5] at hMy
            rw [e1]
            exact ⟨fun z => absurd (show (3 : Nat) = 0 from z) (by decide), fun _ => hMy.2 (show (3 : Nat) ≠ 0 by decide)⟩
    · refine gj_aload_n (pc' := 56) dX11_seenLine_55 rfl rfl ?_
      refine gf_X11_91 (pc' := 59) dX11_seenLine_56 rfl (by first | rfl | assumption) rfl ?_
      rw [hMy.fl]
      first | refine gj_ifB_ne (pc' := 62) (tgt := 105) dX11_seenLine_59 (by decide) rfl (fun c59 => ?_) (fun c59 => ?_) | refine gj_if_ne (pc' := 62) (tgt := 105) dX11_seenLine_59 (by decide) rfl (by omega) (fun c59 => ?_) (fun c59 => ?_)
      · first | have g59 := of_decide_eq_true c59 | have g59 := of_decide_eq_false c59 | skip
        refine gj_iinc (pc' := 108) dX11_seenLine_105 rfl rfl (by decide) ?_
        refine gj_goto (pc' := 43) dX11_seenLine_108 (by decide) ?_
        refine gJ_wk (ih_k  _ (by omega) ?iv_2) ?ll_2
        case ll_2 =>
          repeat' (first | exact True.intro | with_reducible exact rfl | refine And.intro ?_ ?_ | refine vI ?_ | refine vL ?_)
          all_goals omega
        first
        | (have y1 := w1
           refine ⟨i1.tr w1, (3, tS B e y.2), w2, Or.inr ⟨?_, ?_, k, by omega, ?_⟩⟩
           · rw [← iz.1]; exact gy
           · rw [iz.1]
           · exact ⟨by omega, by omega⟩)
        | (have y1 := iz
           refine ⟨i1, y, hMy, Or.inl ⟨iz.1, fun g j hj => ?_⟩⟩
           by_cases q : j = k
           · rw [q]
             intro z
             obtain ⟨z1, z2⟩ := z
             omega
           · exact iz.2 g j (by omega))
        | (refine ⟨i1, y, hMy, ?_⟩
           rcases iy with ⟨q1, q2⟩ | ⟨q1, q2, j, q3, q4⟩
           · refine Or.inl ⟨q1, fun g => ?_⟩
             rw [← q1] at g
             exact absurd g g59
           · exact Or.inr ⟨q1, q2, j, by omega, q4⟩)
      · first | have g59 := of_decide_eq_true c59 | have g59 := of_decide_eq_false c59 | skip
        have gy : y.1 = 0 := Decidable.of_not_not g59
        have iz : y = x3 ∧ (x3.1 = 0 → ∀ j, j < k → ¬ mtS T v1 v2 j) := by
          rcases iy with q | ⟨_, q, _⟩
          · exact q
          · rw [q] at gy
            exact absurd (show (3 : Nat) = 0 from gy) (by decide)
        have hbk := hb6 k (by omega)
        refine gj_aload_n (pc' := 63) dX11_seenLine_62 rfl rfl ?_
        refine gf_X11_23 (pc' := 66) dX11_seenLine_63 rfl (by first | rfl | assumption) rfl ?_
        refine gj_bipush (pc' := 68) dX11_seenLine_66 rfl (by decide) ?_
        refine gj_iconst (pc' := 69) dX11_seenLine_68 rfl ?_
        refine gj_iload (pc' := 71) dX11_seenLine_69 rfl rfl ?_
        refine gj_imul (pc' := 72) dX11_seenLine_71 rfl ?_
        refine gj_iadd (pc' := 73) dX11_seenLine_72 rfl ?_
        refine gj_iald (pc' := 74) (j := 60 + 3 * k) (by first | rfl | assumption) (by omega) (by omega) (by decide) dX11_seenLine_73 rfl ?_
        rw [hFp (60 + 3 * k) (by omega)]
        refine gj_iload_n (pc' := 75) dX11_seenLine_74 rfl rfl ?_
        refine gj_icmp_ne (pc' := 78) (tgt := 105) dX11_seenLine_75 (by decide) rfl (by omega) (fun c75 => ?_) (fun c75 => ?_)
        · refine gj_iinc (pc' := 108) dX11_seenLine_105 rfl rfl (by decide) ?_
          refine gj_goto (pc' := 43) dX11_seenLine_108 (by decide) ?_
          refine gJ_wk (ih_k  _ (by omega) ?iv_3) ?ll_3
          case ll_3 =>
            repeat' (first | exact True.intro | with_reducible exact rfl | refine And.intro ?_ ?_ | refine vI ?_ | refine vL ?_)
            all_goals omega
          first
          | (have y1 := w1
             refine ⟨i1.tr w1, (3, tS B e y.2), w2, Or.inr ⟨?_, ?_, k, by omega, ?_⟩⟩
             · rw [← iz.1]; exact gy
             · rw [iz.1]
             · exact ⟨by omega, by omega⟩)
          | (have y1 := iz
             refine ⟨i1, y, hMy, Or.inl ⟨iz.1, fun g j hj => ?_⟩⟩
             by_cases q : j = k
             · rw [q]
               intro z
               obtain ⟨z1, z2⟩ := z
               omega
             · exact iz.2 g j (by omega))
          | (refine ⟨i1, y, hMy, ?_⟩
             rcases iy with ⟨q1, q2⟩ | ⟨q1, q2, j, q3, q4⟩
             · refine Or.inl ⟨q1, fun g => ?_⟩
               rw [← q1] at g
               exact absurd g g59
             · exact Or.inr ⟨q1, q2, j, by omega, q4⟩)
        · refine gj_aload_n (pc' := 79) dX11_seenLine_78 rfl rfl ?_
          refine gf_X11_23 (pc' := 82) dX11_seenLine_79 rfl (by first | rfl | assumption) rfl ?_
          refine gj_bipush (pc' := 84) dX11_seenLine_82 rfl (by decide) ?_
          refine gj_iconst (pc' := 85) dX11_seenLine_84 rfl ?_
          refine gj_iload (pc' := 87) dX11_seenLine_85 rfl rfl ?_
          refine gj_imul (pc' := 88) dX11_seenLine_87 rfl ?_
          refine gj_iadd (pc' := 89) dX11_seenLine_88 rfl ?_
          refine gj_iconst (pc' := 90) dX11_seenLine_89 rfl ?_
          refine gj_iadd (pc' := 91) dX11_seenLine_90 rfl ?_
          refine gj_iald (pc' := 92) (j := 61 + 3 * k) (by first | rfl | assumption) (by omega) (by omega) (by decide) dX11_seenLine_91 rfl ?_
          rw [hFp (61 + 3 * k) (by omega)]
          refine gj_iload_n (pc' := 93) dX11_seenLine_92 rfl rfl ?_
          refine gj_icmp_ne (pc' := 96) (tgt := 105) dX11_seenLine_93 (by decide) rfl (by omega) (fun c93 => ?_) (fun c93 => ?_)
          · refine gj_iinc (pc' := 108) dX11_seenLine_105 rfl rfl (by decide) ?_
            refine gj_goto (pc' := 43) dX11_seenLine_108 (by decide) ?_
            refine gJ_wk (ih_k  _ (by omega) ?iv_4) ?ll_4
            case ll_4 =>
              repeat' (first | exact True.intro | with_reducible exact rfl | refine And.intro ?_ ?_ | refine vI ?_ | refine vL ?_)
              all_goals omega
            first
            | (have y1 := w1
               refine ⟨i1.tr w1, (3, tS B e y.2), w2, Or.inr ⟨?_, ?_, k, by omega, ?_⟩⟩
               · rw [← iz.1]; exact gy
               · rw [iz.1]
               · exact ⟨by omega, by omega⟩)
            | (have y1 := iz
               refine ⟨i1, y, hMy, Or.inl ⟨iz.1, fun g j hj => ?_⟩⟩
               by_cases q : j = k
               · rw [q]
                 intro z
                 obtain ⟨z1, z2⟩ := z
                 omega
               · exact iz.2 g j (by omega))
            | (refine ⟨i1, y, hMy, ?_⟩
               rcases iy with ⟨q1, q2⟩ | ⟨q1, q2, j, q3, q4⟩
               · refine Or.inl ⟨q1, fun g => ?_⟩
                 rw [← q1] at g
                 exact absurd g g59
               · exact Or.inr ⟨q1, q2, j, by omega, q4⟩)
          · refine gj_aload_n (pc' := 97) dX11_seenLine_96 rfl rfl ?_
            refine gj_iconst (pc' := 98) dX11_seenLine_97 rfl ?_
            refine gj_aload_n (pc' := 99) dX11_seenLine_98 rfl rfl ?_
            refine gf_X11_72 (pc' := 102) dX11_seenLine_99 rfl (by first | rfl | assumption) rfl ?_
            rw [(hMy.1 gy).2.1.2.2.1]
            refine gc_X11_118 (pc' := 105) dX11_seenLine_102 rfl (m_wrong (hMy.1 gy) (k := 3) (by decide)) rfl (by first | rfl | assumption) (by decide) rfl (Nat.le_of_ble_eq_true rfl) (fun v9 h9 q9 => ?_)
            obtain ⟨rfl, w1, w2⟩ := q9
            show gJ _ _ _ _ _ _ _ [] _ _
            refine gj_iinc (pc' := 108) dX11_seenLine_105 rfl rfl (by decide) ?_
            refine gj_goto (pc' := 43) dX11_seenLine_108 (by decide) ?_
            refine gJ_wk (ih_k  _ (by omega) ?iv_5) ?ll_5
            case ll_5 =>
              repeat' (first | exact True.intro | with_reducible exact rfl | refine And.intro ?_ ?_ | refine vI ?_ | refine vL ?_)
              all_goals omega
            first
            | (have y1 := w1
               refine ⟨i1.tr w1, (3, tS B e y.2), w2, Or.inr ⟨?_, ?_, k, by omega, ?_⟩⟩
               · rw [← iz.1]; exact gy
               · rw [iz.1]
               · exact ⟨by omega, by omega⟩)
            | (have y1 := iz
               refine ⟨i1, y, hMy, Or.inl ⟨iz.1, fun g j hj => ?_⟩⟩
               by_cases q : j = k
               · rw [q]
                 intro z
                 obtain ⟨z1, z2⟩ := z
                 omega
               · exact iz.2 g j (by omega))
            | (refine ⟨i1, y, hMy, ?_⟩
               rcases iy with ⟨q1, q2⟩ | ⟨q1, q2, j, q3, q4⟩
               · refine Or.inl ⟨q1, fun g => ?_⟩
                 rw [← q1] at g
                 exact absurd g g59
               · exact Or.inr ⟨q1, q2, j, by omega, q4⟩)
  · first | have g4 := of_decide_eq_true c4 | have g4 := of_decide_eq_false c4 | skip
    refine gj_vret rfl dX11_seenLine_7 ?_
    exact ⟨rfl, mlE.rf h, MG_x g4 hM c0⟩
