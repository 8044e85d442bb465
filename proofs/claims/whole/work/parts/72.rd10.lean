/-! the class's Reader: the line of a bird, whole -/
theorem s_readBird {h : gH} {B : Nat → Nat} {e p t : Nat} {T : Nat → Nat} (ht : isT t) (hI : LI h B e p t T) (h4 : T 4 < 7) : gSp 9 yX4_readBird cX4_readBird 2 (some .boolean) [.ref 1] h (lnQ h B e t (lnB B e T p)) := by
  obtain ⟨hC, ⟨m, sl, hN⟩, hU, hTA, hSA, hD, hL, hTL⟩ := hI
  obtain ⟨t0, t1, t2, t3, t4, t5, t6, t7, -⟩ := shT ht
  have htt : t = 6 ∨ t = 29 := ht
  obtain ⟨⟨l0, l1, l2, l3, l4, l5, l6⟩, l7, l8, l9, l10, l11⟩ := id hTL
  obtain ⟨T1, hT1⟩ : ∃ X, X = tkN B e T (6 + T 4) (tEn B e p) := ⟨_, rfl⟩
  have hr : lnB B e T p = bd (ptM B e T (tEn B e p)) (fun _ p1 => bd (ptK B e p1) (fun kd p2 => bd (ptW B e 14 p2) (fun _ p3 => bd (ptH B e T1 (-1) p3) (fun a p4 => bd (ptW B e 15 p4) (fun _ p5 => bd (ptH B e T1 (a : Int) p5) (fun b p6 => bd (ptN B e 16 0 30 p6) (fun d p7 => bd (ptN B e 17 1 60 p7) (fun w p8 => (0, p8, uT (uT (uT (uT (uT (uT T1 (19 + 5 * T 4) kd) (20 + 5 * T 4) a) (21 + 5 * T 4) b) (22 + 5 * T 4) d) (23 + 5 * T 4) w) 4 (T 4 + 1)))))))))) := by
    rw [hT1]
    rfl
  have hn0 : T (75 + (6 + T 4)) = 0 := by
    have := l11 (6 + T 4) (by omega)
    omega
  refine gSp_of (by decide +kernel) (Nat.le_of_ble_eq_true rfl) ?_
  show gJ RX4 cX4_readBird 2 (some .boolean) _ 0 [some (.ref 1), none] [] _ _
  refine gj_aload_n (pc' := 1) dX4_readBird_0 rfl rfl ?_
  refine gf_X4_31 (pc' := 4) dX4_readBird_1 rfl (by first | rfl | assumption) rfl ?_
  rw [hD]
  refine gf_X4_99 (pc' := 7) dX4_readBird_4 rfl (by first | rfl | assumption) rfl ?_
  rw [hTA.1 4 (by decide)]
  refine gj_istore_n (pc' := 8) dX4_readBird_7 rfl (by decide) ?_
  refine gj_aload_n (pc' := 9) dX4_readBird_8 rfl rfl ?_
  refine gf_X4_16 (pc' := 12) dX4_readBird_9 rfl (by first | rfl | assumption) rfl ?_
  refine gc_X4_63 (pc' := 15) dX4_readBird_12 rfl (s_stepT hC) rfl (by first | rfl | assumption) (by decide) rfl (Nat.le_of_ble_eq_true rfl) (fun v9 h9 q9 => ?_)
  obtain ⟨rfl, q1, q2⟩ := q9
  obtain ⟨ha, rfl⟩ : ∃ x, x = h9 := ⟨h9, rfl⟩
  show gJ _ _ _ _ _ _ _ [] _ _
  refine gj_aload_n (pc' := 16) dX4_readBird_15 rfl rfl ?_
  refine gj_iconst (pc' := 17) dX4_readBird_16 rfl ?_
  refine gc_X4_143 (pc' := 20) dX4_readBird_17 rfl (s_newNameB (s := 6 + T 4) q2 (hN.re q1.re) hU ⟨by omega, by omega⟩ hn0) rfl (by first | rfl | assumption) (by decide) rfl (Nat.le_of_ble_eq_true rfl) (fun v9 h9 q9 => ?_)
  obtain ⟨rfl, n1, n2, n3⟩ := q9
  obtain ⟨hb, rfl⟩ : ∃ x, x = h9 := ⟨h9, rfl⟩
  have f1 : frE h hb t := (q1.re.rn.tr n1).fr t
  show gJ _ _ _ _ _ _ _ [.int (zI (bI _))] _ _
  first | refine gj_ifB_eq (pc' := 23) (tgt := 30) dX4_readBird_20 (by decide) rfl (fun c20 => ?_) (fun c20 => ?_) | refine gj_if_eq (pc' := 23) (tgt := 30) dX4_readBird_20 (by decide) rfl (by omega) (fun c20 => ?_) (fun c20 => ?_)
  · first | have g20 := of_decide_eq_true c20 | have g20 := of_decide_eq_false c20 | skip
    refine gj_iconst (pc' := 31) dX4_readBird_30 rfl ?_
    refine gj_zret rfl (by first | rfl | exact gnZ _ | assumption) dX4_readBird_31 ?_
    rw [hr]
    first
    | exact lnQ_1 g20 f1 n3
    | exact lnQ_1 g27 f2 k3
  · first | have g20 := of_decide_eq_true c20 | have g20 := of_decide_eq_false c20 | skip
    obtain ⟨b1, b2, hU1, m1, sl1, hN1⟩ := n2 g20
    rw [← hT1] at hU1 hN1
    obtain ⟨p1, hp1⟩ : ∃ x, x = (ptM B e T (tEn B e p)).2.2 := ⟨_, rfl⟩
    rw [bd_0 g20, ← hp1] at hr
    rw [← hp1] at b1
    refine gj_aload_n (pc' := 24) dX4_readBird_23 rfl rfl ?_
    refine gc_X4_154 (pc' := 27) dX4_readBird_24 rfl (s_takeKind b1) rfl (by first | rfl | assumption) (by decide) rfl (Nat.le_of_ble_eq_true rfl) (fun v9 h9 q9 => ?_)
    obtain ⟨rfl, k1, k2, k3⟩ := q9
    obtain ⟨hk, rfl⟩ : ∃ x, x = h9 := ⟨h9, rfl⟩
    have f2 : frE h hk t := f1.tr (k1.fr t)
    have hDk : hk.2.2 1 = t := by rw [f2.1]; exact hD
    show gJ _ _ _ _ _ _ _ [.int (zI (bI _))] _ _
    first | refine gj_ifB_ne (pc' := 30) (tgt := 32) dX4_readBird_27 (by decide) rfl (fun c27 => ?_) (fun c27 => ?_) | refine gj_if_ne (pc' := 30) (tgt := 32) dX4_readBird_27 (by decide) rfl (by omega) (fun c27 => ?_) (fun c27 => ?_)
    · first | have g27 := of_decide_eq_true c27 | have g27 := of_decide_eq_false c27 | skip
      obtain ⟨b3, b4⟩ := k2 g27
      have hv1 := ptK_b g27
      obtain ⟨kd, hkd⟩ : ∃ x, x = (ptK B e p1).2.1 := ⟨_, rfl⟩
      obtain ⟨p2, hp2⟩ : ∃ x, x = (ptK B e p1).2.2 := ⟨_, rfl⟩
      rw [bd_0 g27, ← hkd, ← hp2] at hr
      rw [← hkd] at hv1 b4
      rw [← hp2] at b3
      refine gj_aload_n (pc' := 33) dX4_readBird_32 rfl rfl ?_
      refine gf_X4_31 (pc' := 36) dX4_readBird_33 rfl (by first | rfl | assumption) rfl ?_
      rw [hDk]
      refine gf_X4_157 (pc' := 39) dX4_readBird_36 rfl (by first | rfl | assumption) rfl ?_
      refine gj_iload_n (pc' := 40) dX4_readBird_39 rfl rfl ?_
      refine gj_aload_n (pc' := 41) dX4_readBird_40 rfl rfl ?_
      refine gf_X4_130 (pc' := 44) dX4_readBird_41 rfl (by first | rfl | assumption) rfl ?_
      rw [b4]
      refine gj_iast (pc' := 45) (j := T 4) (by first | rfl | assumption) (by omega) (by omega) (by decide) dX4_readBird_44 rfl ?_
      refine gj_aload_n (pc' := 46) dX4_readBird_45 rfl rfl ?_
      refine gj_ldcS (pc' := 48) dX4_readBird_46 rfl (gstr_X4_160) ?_
      refine gc_X4_162 (pc' := 51) dX4_readBird_48 rfl (s_takeWord (i := 14) (b3.p6 (o := t + 3) (k := T 4) (x := (kd : Int)) (by omega)) (by decide)) rfl (by first | rfl | assumption) (by decide) rfl (Nat.le_of_ble_eq_true rfl) (fun v9 h9 q9 => ?_)
      obtain ⟨rfl, w1, w2, w3⟩ := q9
      obtain ⟨hw, rfl⟩ : ∃ x, x = h9 := ⟨h9, rfl⟩
      have f3 : frE h hw t := f2.tr ((frE.put ht (by omega)).tr (w1.fr t))
      show gJ _ _ _ _ _ _ _ [.int (zI (bI _))] _ _
      first | refine gj_ifB_eq (pc' := 54) (tgt := 62) dX4_readBird_51 (by decide) rfl (fun c51 => ?_) (fun c51 => ?_) | refine gj_if_eq (pc' := 54) (tgt := 62) dX4_readBird_51 (by decide) rfl (by omega) (fun c51 => ?_) (fun c51 => ?_)
      · first | have g51 := of_decide_eq_true c51 | have g51 := of_decide_eq_false c51 | skip
        refine gj_iconst (pc' := 63) dX4_readBird_62 rfl ?_
        refine gj_zret rfl (by first | rfl | exact gnZ _ | assumption) dX4_readBird_63 ?_
        rw [hr]
        first
        | exact lnQ_1 g51 f3 w3
        | exact lnQ_1 g59 f4 c3
      · first | have g51 := of_decide_eq_true c51 | have g51 := of_decide_eq_false c51 | skip
        obtain ⟨b5, b6⟩ := w2 g51
        obtain ⟨p3, hp3⟩ : ∃ x, x = (ptW B e 14 p2).2.2 := ⟨_, rfl⟩
        rw [bd_0 g51, ← hp3] at hr
        rw [← hp3] at b5
        refine gj_aload_n (pc' := 55) dX4_readBird_54 rfl rfl ?_
        refine gj_iconst (pc' := 56) dX4_readBird_55 rfl ?_
        refine gc_X4_165 (pc' := 59) dX4_readBird_56 rfl (s_takeHouse (u := -1) b5 (((hN1.re k1).p6 (by omega)).re w1) hU1 (by decide)) rfl (by first | rfl | assumption) (by decide) rfl (Nat.le_of_ble_eq_true rfl) (fun v9 h9 q9 => ?_)
        obtain ⟨rfl, c1, c2, c3⟩ := q9
        obtain ⟨hf, rfl⟩ : ∃ x, x = h9 := ⟨h9, rfl⟩
        have f4 : frE h hf t := f3.tr (c1.fr t)
        have hDf : hf.2.2 1 = t := by rw [f4.1]; exact hD
        show gJ _ _ _ _ _ _ _ [.int (zI (bI _))] _ _
        first | refine gj_ifB_ne (pc' := 62) (tgt := 64) dX4_readBird_59 (by decide) rfl (fun c59 => ?_) (fun c59 => ?_) | refine gj_if_ne (pc' := 62) (tgt := 64) dX4_readBird_59 (by decide) rfl (by omega) (fun c59 => ?_) (fun c59 => ?_)
        · first | have g59 := of_decide_eq_true c59 | have g59 := of_decide_eq_false c59 | skip
          obtain ⟨b7, b8⟩ := c2 g59
          have hv2 := ptH_b g59
          obtain ⟨va, hva⟩ : ∃ x, x = (ptH B e T1 (-1) p3).2.1 := ⟨_, rfl⟩
          obtain ⟨p4, hp4⟩ : ∃ x, x = (ptH B e T1 (-1) p3).2.2 := ⟨_, rfl⟩
          rw [bd_0 g59, ← hva, ← hp4] at hr
          rw [← hva] at hv2 b8
          rw [← hp4] at b7
          refine gj_aload_n (pc' := 65) dX4_readBird_64 rfl rfl ?_
          refine gf_X4_31 (pc' := 68) dX4_readBird_65 rfl (by first | rfl | assumption) rfl ?_
          rw [hDf]
          refine gf_X4_168 (pc' := 71) dX4_readBird_68 rfl (by first | rfl | assumption) rfl ?_
          refine gj_iload_n (pc' := 72) dX4_readBird_71 rfl rfl ?_
          refine gj_aload_n (pc' := 73) dX4_readBird_72 rfl rfl ?_
          refine gf_X4_130 (pc' := 76) dX4_readBird_73 rfl (by first | rfl | assumption) rfl ?_
          rw [b8]
          refine gj_iast (pc' := 77) (j := T 4) (by first | rfl | assumption) (by omega) (by omega) (by decide) dX4_readBird_76 rfl ?_
          refine gj_aload_n (pc' := 78) dX4_readBird_77 rfl rfl ?_
          refine gj_ldcS (pc' := 80) dX4_readBird_78 rfl (gstr_X4_170) ?_
          refine gc_X4_162 (pc' := 83) dX4_readBird_80 rfl (s_takeWord (i := 15) (b7.p6 (o := t + 4) (k := T 4) (x := (va : Int)) (by omega)) (by decide)) rfl (by first | rfl | assumption) (by decide) rfl (Nat.le_of_ble_eq_true rfl) (fun v9 h9 q9 => ?_)
          obtain ⟨rfl, x1, x2, x3⟩ := q9
          obtain ⟨hv, rfl⟩ : ∃ x, x = h9 := ⟨h9, rfl⟩
          have f5 : frE h hv t := f4.tr ((frE.put ht (by omega)).tr (x1.fr t))
          have hDv : hv.2.2 1 = t := by rw [f5.1]; exact hD
          have hNv : CN hf T1 m1 sl1 := ((((hN1.re k1).p6 (by omega)).re w1).re c1)
          have ev4 : hv.1 (t + 4) (T 4) = (va : Int) := by rw [x1.2.1 (t + 4) (by omega) (by omega), gui_s, up1_s]
          show gJ _ _ _ _ _ _ _ [.int (zI (bI _))] _ _
          first | refine gj_ifB_eq (pc' := 86) (tgt := 102) dX4_readBird_83 (by decide) rfl (fun c83 => ?_) (fun c83 => ?_) | refine gj_if_eq (pc' := 86) (tgt := 102) dX4_readBird_83 (by decide) rfl (by omega) (fun c83 => ?_) (fun c83 => ?_)
          · first | have g83 := of_decide_eq_true c83 | have g83 := of_decide_eq_false c83 | skip
            refine gj_iconst (pc' := 103) dX4_readBird_102 rfl ?_
            refine gj_zret rfl (by first | rfl | exact gnZ _ | assumption) dX4_readBird_103 ?_
            rw [hr]
            first
            | exact lnQ_1 g83 f5 x3
            | exact lnQ_1 g99 f6 y3
          · first | have g83 := of_decide_eq_true c83 | have g83 := of_decide_eq_false c83 | skip
            obtain ⟨b9, b9'⟩ := x2 g83
            obtain ⟨p5, hp5⟩ : ∃ x, x = (ptW B e 15 p4).2.2 := ⟨_, rfl⟩
            rw [bd_0 g83, ← hp5] at hr
            rw [← hp5] at b9
            refine gj_aload_n (pc' := 87) dX4_readBird_86 rfl rfl ?_
            refine gj_aload_n (pc' := 88) dX4_readBird_87 rfl rfl ?_
            refine gf_X4_31 (pc' := 91) dX4_readBird_88 rfl (by first | rfl | assumption) rfl ?_
            rw [hDv]
            refine gf_X4_168 (pc' := 94) dX4_readBird_91 rfl (by first | rfl | assumption) rfl ?_
            refine gj_iload_n (pc' := 95) dX4_readBird_94 rfl rfl ?_
            refine gj_iald (pc' := 96) (j := T 4) (by first | rfl | assumption) (by omega) (by omega) (by decide) dX4_readBird_95 rfl ?_
            rw [ev4]
            refine gc_X4_165 (pc' := 99) dX4_readBird_96 rfl (s_takeHouse (u := (va : Int)) b9 ((hNv.p6 (by omega)).re x1) hU1 (by omega)) rfl (by first | rfl | assumption) (by decide) rfl (Nat.le_of_ble_eq_true rfl) (fun v9 h9 q9 => ?_)
            obtain ⟨rfl, y1, y2, y3⟩ := q9
            obtain ⟨hg, rfl⟩ : ∃ x, x = h9 := ⟨h9, rfl⟩
            have f6 : frE h hg t := f5.tr (y1.fr t)
            have hDg : hg.2.2 1 = t := by rw [f6.1]; exact hD
            show gJ _ _ _ _ _ _ _ [.int (zI (bI _))] _ _
            first | refine gj_ifB_ne (pc' := 102) (tgt := 104) dX4_readBird_99 (by decide) rfl (fun c99 => ?_) (fun c99 => ?_) | refine gj_if_ne (pc' := 102) (tgt := 104) dX4_readBird_99 (by decide) rfl (by omega) (fun c99 => ?_) (fun c99 => ?_)
            · first | have g99 := of_decide_eq_true c99 | have g99 := of_decide_eq_false c99 | skip
              obtain ⟨b10, b11⟩ := y2 g99
              have hv3 := ptH_b g99
              obtain ⟨vb, hvb⟩ : ∃ x, x = (ptH B e T1 (va : Int) p5).2.1 := ⟨_, rfl⟩
              obtain ⟨p6, hp6⟩ : ∃ x, x = (ptH B e T1 (va : Int) p5).2.2 := ⟨_, rfl⟩
              rw [bd_0 g99, ← hvb, ← hp6] at hr
              rw [← hvb] at hv3 b11
              rw [← hp6] at b10
              have zs : ∀ n, n < 16 → (T1 (75 + n) ≠ 0 ↔ T (75 + n) ≠ 0 ∨ n = 6 + T 4) := fun n hn => by
                rw [hT1]
                exact tkN_sl (T := T) (s := 6 + T 4) (tEn_in hC.2.1).2.1 g20 n hn
              have hva3 : va < T 3 := by
                have z1 := zs va (by omega)
                have z2 := l11 va (by omega)
                omega
              have hvb3 : vb < T 3 := by
                have z1 := zs vb (by omega)
                have z2 := l11 vb (by omega)
                omega
              have eb : ∀ o, 6 ≤ o → hk.1 o = h.1 o := fun o o6 => by
                rw [k1.2.1 o (by omega) (by omega), n1.2.1 o (by omega) (by omega) (by omega), (q1.2.1 o (by omega)).1]
              refine s_birdB ht hTA hSA hL hTL h4 (fun x hx => by rw [hT1]; exact tkN_lo hx) zs b10 b11 (((hNv.p6 (by omega)).re x1).re y1) hU1 hDg f6 ?_ (fun o o6 z3 z4 => ?_) ?_ ?_ hv1 hva3 hvb3 (by omega) hr
              · rw [y1.2.2.2.1 4 (by decide), x1.2.2.2.1 4 (by decide), gui_n (by omega), c1.2.2.2.1 4 (by decide), w1.2.2.2.1 4 (by decide), gui_n (by omega), k1.2.2.2.1 4 (by decide), n1.2.2.2.1 4 (by decide), (q1.2.1 1 (by decide)).1]
              · rw [y1.2.1 o (by omega) (by omega), x1.2.1 o (by omega) (by omega), gui_n z4, c1.2.1 o (by omega) (by omega), w1.2.1 o (by omega) (by omega), gui_n z3, eb o o6]
              · rw [y1.2.1 _ (by omega) (by omega), x1.2.1 _ (by omega) (by omega), gui_n (by omega), c1.2.1 _ (by omega) (by omega), w1.2.1 _ (by omega) (by omega), gui_s, eb _ (by omega)]
              · rw [y1.2.1 _ (by omega) (by omega), x1.2.1 _ (by omega) (by omega), gui_s, c1.2.1 _ (by omega) (by omega), w1.2.1 _ (by omega) (by omega), gui_n (by omega), eb _ (by omega)]
            · first | have g99 := of_decide_eq_true c99 | have g99 := of_decide_eq_false c99 | skip
              refine gj_iconst (pc' := 103) dX4_readBird_102 rfl ?_
              refine gj_zret rfl (by first | rfl | exact gnZ _ | assumption) dX4_readBird_103 ?_
              rw [hr]
              first
              | exact lnQ_1 g83 f5 x3
              | exact lnQ_1 g99 f6 y3
        · first | have g59 := of_decide_eq_true c59 | have g59 := of_decide_eq_false c59 | skip
          refine gj_iconst (pc' := 63) dX4_readBird_62 rfl ?_
          refine gj_zret rfl (by first | rfl | exact gnZ _ | assumption) dX4_readBird_63 ?_
          rw [hr]
          first
          | exact lnQ_1 g51 f3 w3
          | exact lnQ_1 g59 f4 c3
    · first | have g27 := of_decide_eq_true c27 | have g27 := of_decide_eq_false c27 | skip
      refine gj_iconst (pc' := 31) dX4_readBird_30 rfl ?_
      refine gj_zret rfl (by first | rfl | exact gnZ _ | assumption) dX4_readBird_31 ?_
      rw [hr]
      first
      | exact lnQ_1 g20 f1 n3
      | exact lnQ_1 g27 f2 k3
