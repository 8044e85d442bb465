/-! the class's Reader: the line of a stray -/
theorem ptH_b {B : Nat → Nat} {e p : Nat} {T : Nat → Nat} {u : Int} (g : (ptH B e T u p).1 = 0) : (ptH B e T u p).2.1 < 6 ∧ T (75 + (ptH B e T u p).2.1) ≠ 0 ∧ (((ptH B e T u p).2.1 : Nat) : Int) ≠ u := by
  have hr : ptH B e T u p = if tNm B e p = false then (1, tS B e p, 0) else if fd T (tWd B e p) = -2 ∨ 6 ≤ fd T (tWd B e p) then (2, tS B e p, 0) else if fd T (tWd B e p) = u then (3, tS B e p, 0) else (0, (fd T (tWd B e p)).toNat, tEn B e p) := rfl
  by_cases q : tNm B e p = false
  · rw [if_pos q] at hr
    rw [hr] at g
    exact absurd (show (1 : Nat) = 0 from g) (by decide)
  · rw [if_neg q] at hr
    by_cases q2 : fd T (tWd B e p) = -2 ∨ 6 ≤ fd T (tWd B e p)
    · rw [if_pos q2] at hr
      rw [hr] at g
      exact absurd (show (2 : Nat) = 0 from g) (by decide)
    · rw [if_neg q2] at hr
      by_cases q3 : fd T (tWd B e p) = u
      · rw [if_pos q3] at hr
        rw [hr] at g
        exact absurd (show (3 : Nat) = 0 from g) (by decide)
      · rw [if_neg q3] at hr
        rw [hr]
        rcases fd_cs (T := T) (tWd B e p) with ⟨z, _⟩ | ⟨n, n1, z, z2, _⟩
        · exact absurd (Or.inl z) q2
        · have en : (fd T (tWd B e p)).toNat = n := by omega
          show (fd T (tWd B e p)).toNat < 6 ∧ T (75 + (fd T (tWd B e p)).toNat) ≠ 0 ∧ (((fd T (tWd B e p)).toNat : Nat) : Int) ≠ u
          rw [en]
          exact ⟨by omega, z2, by omega⟩
theorem TownA.sm {h h' : gH} {t : Nat} {T T' : Nat → Nat} (a : TownA h t T) (ex : ∀ x, x < 5 ∨ (7 ≤ x ∧ x < 54) → T' x = T x) (h3 : T 3 ≤ 6) (h4 : T 4 ≤ 7) (eo : ∀ o, t ≤ o → o ≤ t + 7 → h'.1 o = h.1 o) : TownA h' t T' := by
  obtain ⟨a0, a1, a2⟩ := a
  refine ⟨fun k hk => ?_, fun k hk => ?_, fun b hb => ?_⟩
  · rw [eo _ (by omega) (by omega), ex _ (by omega)]
    exact a0 k hk
  · rw [ex 3 (by decide)] at hk
    rw [eo _ (by omega) (by omega), eo _ (by omega) (by omega), ex _ (by omega), ex _ (by omega)]
    exact a1 k hk
  · rw [ex 4 (by decide)] at hb
    unfold tNe
    rw [eo _ (by omega) (by omega), eo _ (by omega) (by omega), eo _ (by omega) (by omega), eo _ (by omega) (by omega), eo _ (by omega) (by omega), ex _ (by omega), ex _ (by omega), ex _ (by omega), ex _ (by omega), ex _ (by omega)]
    exact a2 b hb
def lnS (B : Nat → Nat) (e : Nat) (T : Nat → Nat) (p : Nat) : Nat × Nat × (Nat → Nat) := bd (ptM B e T (tEn B e p)) (fun _ p1 => bd (ptW B e 14 p1) (fun _ p2 => bd (ptH B e (tkN B e T (13 + T 5) (tEn B e p)) (-1) p2) (fun a p3 => bd (ptN B e 16 0 30 p3) (fun d p4 => (0, p4, uT (uT (uT (tkN B e T (13 + T 5) (tEn B e p)) (54 + 2 * T 5) a) (55 + 2 * T 5) d) 5 (T 5 + 1))))))
theorem s_readStray {h : gH} {B : Nat → Nat} {e p t : Nat} {T : Nat → Nat} (ht : isT t) (hI : LI h B e p t T) (h5 : T 5 < 3) : gSp 9 yX4_readStray cX4_readStray 2 (some .boolean) [.ref 1] h (lnQ h B e t (lnS B e T p)) := by
  obtain ⟨hC, ⟨m, sl, hN⟩, hU, hTA, hSA, hD, hL, hTL⟩ := hI
  obtain ⟨t0, -⟩ := shT ht
  have t10 := (shT ht).2.2.2.2.2.2.2.2.2.2
  obtain ⟨s0, s1, s2, -⟩ := shS ht
  have htt : t = 6 ∨ t = 29 := ht
  obtain ⟨⟨l0, l1, l2, l3, l4, l5, l6⟩, l7, l8, l9, l10, l11⟩ := id hTL
  have hr : lnS B e T p = bd (ptM B e T (tEn B e p)) (fun _ p1 => bd (ptW B e 14 p1) (fun _ p2 => bd (ptH B e (tkN B e T (13 + T 5) (tEn B e p)) (-1) p2) (fun a p3 => bd (ptN B e 16 0 30 p3) (fun d p4 => (0, p4, uT (uT (uT (tkN B e T (13 + T 5) (tEn B e p)) (54 + 2 * T 5) a) (55 + 2 * T 5) d) 5 (T 5 + 1)))))) := rfl
  have hn0 : T (75 + (13 + T 5)) = 0 := by
    have := l11 (13 + T 5) (by omega)
    omega
  refine gSp_of (by decide +kernel) (Nat.le_of_ble_eq_true rfl) ?_
  show gJ RX4 cX4_readStray 2 (some .boolean) _ 0 [some (.ref 1), none] [] _ _
  refine gj_aload_n (pc' := 1) dX4_readStray_0 rfl rfl ?_
  refine gf_X4_31 (pc' := 4) dX4_readStray_1 rfl (by first | rfl | assumption) rfl ?_
  rw [hD]
  refine gf_X4_107 (pc' := 7) dX4_readStray_4 rfl (by first | rfl | assumption) rfl ?_
  refine gf_X4_111 (pc' := 10) dX4_readStray_7 rfl (by first | rfl | assumption) rfl ?_
  rw [hSA.1]
  refine gj_istore_n (pc' := 11) dX4_readStray_10 rfl (by decide) ?_
  refine gj_aload_n (pc' := 12) dX4_readStray_11 rfl rfl ?_
  refine gf_X4_16 (pc' := 15) dX4_readStray_12 rfl (by first | rfl | assumption) rfl ?_
  refine gc_X4_63 (pc' := 18) dX4_readStray_15 rfl (s_stepT hC) rfl (by first | rfl | assumption) (by decide) rfl (Nat.le_of_ble_eq_true rfl) (fun v9 h9 q9 => ?_)
  obtain ⟨rfl, q1, q2⟩ := q9
  obtain ⟨ha, rfl⟩ : ∃ x, x = h9 := ⟨h9, rfl⟩
  show gJ _ _ _ _ _ _ _ [] _ _
  refine gj_aload_n (pc' := 19) dX4_readStray_18 rfl rfl ?_
  refine gj_iconst (pc' := 20) dX4_readStray_19 rfl ?_
  refine gc_X4_143 (pc' := 23) dX4_readStray_20 rfl (s_newNameB (s := 13 + T 5) q2 (hN.re q1.re) hU ⟨by omega, by omega⟩ hn0) rfl (by first | rfl | assumption) (by decide) rfl (Nat.le_of_ble_eq_true rfl) (fun v9 h9 q9 => ?_)
  obtain ⟨rfl, n1, n2, n3⟩ := q9
  obtain ⟨hb, rfl⟩ : ∃ x, x = h9 := ⟨h9, rfl⟩
  have f1 : frE h hb t := (q1.re.rn.tr n1).fr t
  show gJ _ _ _ _ _ _ _ [.int (zI (bI _))] _ _
  first | refine gj_ifB_eq (pc' := 26) (tgt := 43) dX4_readStray_23 (by decide) rfl (fun c23 => ?_) (fun c23 => ?_) | refine gj_if_eq (pc' := 26) (tgt := 43) dX4_readStray_23 (by decide) rfl (by omega) (fun c23 => ?_) (fun c23 => ?_)
  · first | have g23 := of_decide_eq_true c23 | have g23 := of_decide_eq_false c23 | skip
    refine gj_iconst (pc' := 44) dX4_readStray_43 rfl ?_
    refine gj_zret rfl (by first | rfl | exact gnZ _ | assumption) dX4_readStray_44 ?_
    rw [hr]
    first
    | exact lnQ_1 g23 f1 n3
    | exact lnQ_1 g32 f2 w3
    | exact lnQ_1 g40 f3 c3
  · first | have g23 := of_decide_eq_true c23 | have g23 := of_decide_eq_false c23 | skip
    obtain ⟨b1, b2, hU1, m1, sl1, hN1⟩ := n2 g23
    rw [bd_0 g23] at hr
    refine gj_aload_n (pc' := 27) dX4_readStray_26 rfl rfl ?_
    refine gj_ldcS (pc' := 29) dX4_readStray_27 rfl (gstr_X4_160) ?_
    refine gc_X4_162 (pc' := 32) dX4_readStray_29 rfl (s_takeWord (i := 14) b1 (by decide)) rfl (by first | rfl | assumption) (by decide) rfl (Nat.le_of_ble_eq_true rfl) (fun v9 h9 q9 => ?_)
    obtain ⟨rfl, w1, w2, w3⟩ := q9
    obtain ⟨hw, rfl⟩ : ∃ x, x = h9 := ⟨h9, rfl⟩
    have f2 : frE h hw t := f1.tr (w1.fr t)
    show gJ _ _ _ _ _ _ _ [.int (zI (bI _))] _ _
    first | refine gj_ifB_eq (pc' := 35) (tgt := 43) dX4_readStray_32 (by decide) rfl (fun c32 => ?_) (fun c32 => ?_) | refine gj_if_eq (pc' := 35) (tgt := 43) dX4_readStray_32 (by decide) rfl (by omega) (fun c32 => ?_) (fun c32 => ?_)
    · first | have g32 := of_decide_eq_true c32 | have g32 := of_decide_eq_false c32 | skip
      refine gj_iconst (pc' := 44) dX4_readStray_43 rfl ?_
      refine gj_zret rfl (by first | rfl | exact gnZ _ | assumption) dX4_readStray_44 ?_
      rw [hr]
      first
      | exact lnQ_1 g23 f1 n3
      | exact lnQ_1 g32 f2 w3
      | exact lnQ_1 g40 f3 c3
    · first | have g32 := of_decide_eq_true c32 | have g32 := of_decide_eq_false c32 | skip
      obtain ⟨b7, b8⟩ := w2 g32
      rw [bd_0 g32] at hr
      refine gj_aload_n (pc' := 36) dX4_readStray_35 rfl rfl ?_
      refine gj_iconst (pc' := 37) dX4_readStray_36 rfl ?_
      refine gc_X4_165 (pc' := 40) dX4_readStray_37 rfl (s_takeHouse (u := -1) b7 (hN1.re w1) hU1 (by decide)) rfl (by first | rfl | assumption) (by decide) rfl (Nat.le_of_ble_eq_true rfl) (fun v9 h9 q9 => ?_)
      obtain ⟨rfl, c1, c2, c3⟩ := q9
      obtain ⟨hc, rfl⟩ : ∃ x, x = h9 := ⟨h9, rfl⟩
      have f3 : frE h hc t := f2.tr (c1.fr t)
      have hDc : hc.2.2 1 = t := by rw [f3.1]; exact hD
      show gJ _ _ _ _ _ _ _ [.int (zI (bI _))] _ _
      first | refine gj_ifB_ne (pc' := 43) (tgt := 45) dX4_readStray_40 (by decide) rfl (fun c40 => ?_) (fun c40 => ?_) | refine gj_if_ne (pc' := 43) (tgt := 45) dX4_readStray_40 (by decide) rfl (by omega) (fun c40 => ?_) (fun c40 => ?_)
      · first | have g40 := of_decide_eq_true c40 | have g40 := of_decide_eq_false c40 | skip
        obtain ⟨b3, b4⟩ := c2 g40
        have hv1 := ptH_b g40
        rw [bd_0 g40] at hr
        refine gj_aload_n (pc' := 46) dX4_readStray_45 rfl rfl ?_
        refine gf_X4_31 (pc' := 49) dX4_readStray_46 rfl (by first | rfl | assumption) rfl ?_
        rw [hDc]
        refine gf_X4_107 (pc' := 52) dX4_readStray_49 rfl (by first | rfl | assumption) rfl ?_
        refine gf_X4_189 (pc' := 55) dX4_readStray_52 rfl (by first | rfl | assumption) rfl ?_
        refine gj_iload_n (pc' := 56) dX4_readStray_55 rfl rfl ?_
        refine gj_aload_n (pc' := 57) dX4_readStray_56 rfl rfl ?_
        refine gf_X4_130 (pc' := 60) dX4_readStray_57 rfl (by first | rfl | assumption) rfl ?_
        rw [b4]
        refine gj_iast (pc' := 61) (j := T 5) (by first | rfl | assumption) (by omega) (by omega) (by decide) dX4_readStray_60 rfl ?_
        refine gj_aload_n (pc' := 62) dX4_readStray_61 rfl rfl ?_
        refine gj_ldcS (pc' := 64) dX4_readStray_62 rfl (gstr_X4_175) ?_
        refine gj_iconst (pc' := 65) dX4_readStray_64 rfl ?_
        refine gj_bipush (pc' := 67) dX4_readStray_65 rfl (by decide) ?_
        refine gc_X4_126 (pc' := 70) dX4_readStray_67 rfl (s_takeNumber (i := 16) (lo := 0) (hi := 30) (b3.p6 (by omega)) (by decide) (by decide)) rfl (by first | rfl | assumption) (by decide) rfl (Nat.le_of_ble_eq_true rfl) (fun v9 h9 q9 => ?_)
        obtain ⟨rfl, d1, d2, d3⟩ := q9
        obtain ⟨hd, rfl⟩ : ∃ x, x = h9 := ⟨h9, rfl⟩
        have f4 : frE h hd t := f3.tr ((frE.put ht (by omega)).tr (d1.fr t))
        have hDd : hd.2.2 1 = t := by rw [f4.1]; exact hD
        show gJ _ _ _ _ _ _ _ [.int (zI (bI _))] _ _
        first | refine gj_ifB_ne (pc' := 73) (tgt := 75) dX4_readStray_70 (by decide) rfl (fun c70 => ?_) (fun c70 => ?_) | refine gj_if_ne (pc' := 73) (tgt := 75) dX4_readStray_70 (by decide) rfl (by omega) (fun c70 => ?_) (fun c70 => ?_)
        · first | have g70 := of_decide_eq_true c70 | have g70 := of_decide_eq_false c70 | skip
          obtain ⟨b5, b6⟩ := d2 g70
          have hv2 := ptN_b g70
          rw [bd_0 g70] at hr
          have ec : ∀ o, o ≠ 1 → o ≠ 2 → o ≠ 5 → hc.1 o = h.1 o := fun o o1 o2 o5 => by
            rw [c1.2.1 o o1 o2, w1.2.1 o o1 o2, n1.2.1 o o1 o2 o5, (q1.2.1 o o2).1]
          have ed : ∀ o, o ≠ 1 → o ≠ 2 → o ≠ 5 → o ≠ t + 11 → hd.1 o = h.1 o := fun o o1 o2 o5 ot => by
            rw [d1.2.1 o o1 o2, gui_n ot, ec o o1 o2 o5]
          have et : hd.1 (t + 10) = h.1 (t + 10) := ed (t + 10) (by omega) (by omega) (by omega) (by omega)
          refine gj_aload_n (pc' := 76) dX4_readStray_75 rfl rfl ?_
          refine gf_X4_31 (pc' := 79) dX4_readStray_76 rfl (by first | rfl | assumption) rfl ?_
          rw [hDd]
          refine gf_X4_107 (pc' := 82) dX4_readStray_79 rfl (by first | rfl | assumption) rfl ?_
          refine gf_X4_190 (pc' := 85) dX4_readStray_82 rfl (by first | rfl | assumption) rfl ?_
          refine gj_iload_n (pc' := 86) dX4_readStray_85 rfl rfl ?_
          refine gj_aload_n (pc' := 87) dX4_readStray_86 rfl rfl ?_
          refine gf_X4_130 (pc' := 90) dX4_readStray_87 rfl (by first | rfl | assumption) rfl ?_
          rw [b6]
          refine gj_iast (pc' := 91) (j := T 5) (by first | rfl | assumption) (by omega) (by omega) (by decide) dX4_readStray_90 rfl ?_
          refine gj_aload_n (pc' := 92) dX4_readStray_91 rfl rfl ?_
          refine gf_X4_31 (pc' := 95) dX4_readStray_92 rfl (by first | rfl | assumption) rfl ?_
          rw [show ∀ x, (gui hd (t + 12) (T 5) x).2.2 1 = t from fun _ => hDd]
          refine gf_X4_107 (pc' := 98) dX4_readStray_95 rfl (by first | rfl | assumption) rfl ?_
          refine gj_dup (pc' := 99) dX4_readStray_98 rfl rfl ?_
          refine gf_X4_111 (pc' := 102) dX4_readStray_99 rfl (by first | rfl | assumption) rfl ?_
          rw [show ∀ x, (gui hd (t + 12) (T 5) x).1 (t + 10) 0 = (T 5 : Int) from fun _ => by rw [gui_n (by omega), et]; exact hSA.1]
          refine gj_iconst (pc' := 103) dX4_readStray_102 rfl ?_
          refine gj_iadd (pc' := 104) dX4_readStray_103 rfl ?_
          refine gp_X4_111 (pc' := 107) dX4_readStray_104 rfl (by first | rfl | assumption) rfl ?_
          refine gj_iconst (pc' := 108) dX4_readStray_107 rfl ?_
          refine gj_zret rfl (by first | rfl | exact gnZ _ | assumption) dX4_readStray_108 ?_
          rw [hr]
          obtain ⟨va, hva⟩ : ∃ w, w = (ptH B e (tkN B e T (13 + T 5) (tEn B e p)) (-1) (ptW B e 14 (ptM B e T (tEn B e p)).2.2).2.2).2.1 := ⟨_, rfl⟩
          obtain ⟨vc, hvc⟩ : ∃ w, w = (ptN B e 16 0 30 (ptH B e (tkN B e T (13 + T 5) (tEn B e p)) (-1) (ptW B e 14 (ptM B e T (tEn B e p)).2.2).2.2).2.2).2.1 := ⟨_, rfl⟩
          rw [← hva] at hv1 b4
          rw [← hvc] at hv2 b6
          rw [← hva, ← hvc]
          have ea : hd.1 (t + 11) = up1 (h.1 (t + 11)) (T 5) (va : Int) := by
            rw [d1.2.1 (t + 11) (by omega) (by omega), gui_s, ec (t + 11) (by omega) (by omega) (by omega), ← hva]
          have e2 := ed (t + 12) (by omega) (by omega) (by omega) (by omega)
          obtain ⟨T', hT'⟩ : ∃ T', T' = uT (uT (uT (tkN B e T (13 + T 5) (tEn B e p)) (54 + 2 * T 5) va) (55 + 2 * T 5) vc) 5 (T 5 + 1) := ⟨_, rfl⟩
          rw [← hT']
          have x5 : T' 5 = T 5 + 1 := by rw [hT', uT_s]
          have xa : T' (54 + 2 * T 5) = va := by rw [hT', uT_n (by omega), uT_n (by omega), uT_s]
          have xc : T' (55 + 2 * T 5) = vc := by rw [hT', uT_n (by omega), uT_s]
          have xl : ∀ x, x < 75 → x ≠ 5 → x ≠ 54 + 2 * T 5 → x ≠ 55 + 2 * T 5 → T' x = T x := fun x x1 x2 x3 x4 => by rw [hT', uT_n x2, uT_n x4, uT_n x3, tkN_lo x1]
          have xh : ∀ x, 75 ≤ x → T' x = tkN B e T (13 + T 5) (tEn B e p) x := fun x hx => by rw [hT', uT_n (by omega), uT_n (by omega), uT_n (by omega)]
          have zs := fun n hn => tkN_sl (T := T) (s := 13 + T 5) (tEn_in hC.2.1).2.1 g23 n hn
          have hva3 : va < T 3 := by
            have z1 := zs va (by omega)
            have z2 := l11 va (by omega)
            omega
          have x3 := xl 3 (by decide) (by decide) (by omega) (by omega)
          have x4 := xl 4 (by decide) (by decide) (by omega) (by omega)
          have x6 := xl 6 (by decide) (by decide) (by omega) (by omega)
          refine lnQ_0 (f4.tr ((frE.put ht (by omega)).tr (frE.put ht (by omega)))) ⟨(b5.p6 (by omega)).p6 (by omega), ⟨m1, sl1, ((((((hN1.re w1).re c1).p6 (by omega)).re d1).p6 (by omega)).p6 (by omega)).cg xh⟩, hU1.cg xh, ?_, ⟨?_, ?_, fun k hk => ?_, fun k hk => ?_⟩, hDd, ?_, ?_⟩
          · refine hTA.sm (fun x hx => xl x (by omega) (by omega) (by omega) (by omega)) l3 l4 (fun o o1 o2 => ?_)
            rw [gui_n (by omega), gui_n (by omega)]
            exact ed o (by omega) (by omega) (by omega) (by omega)
          · rw [gui_s, up1_s, x5]
            omega
          · rw [gui_s, up1_n (by decide), gui_n (by omega), et, x6]
            exact hSA.2.1
          · rw [gui_n (by omega), gui_n (by omega), gui_n (by omega), gui_s, ea, e2]
            by_cases q : k = T 5
            · rw [q, up1_s, up1_s, xa, xc]
              exact ⟨rfl, rfl⟩
            · rw [x5] at hk
              rw [up1_n q, up1_n q, xl _ (by omega) (by omega) (by omega) (by omega), xl _ (by omega) (by omega) (by omega) (by omega)]
              exact hSA.2.2.1 k (by omega)
          · rw [x6] at hk
            have eo : ∀ o, t + 17 ≤ o → o ≤ t + 19 → (gui (gui hd (t + 12) (T 5) (vc : Int)) (t + 10) 0 ((T 5 : Int) + 1)).1 o = h.1 o := fun o o1 o2 => by
              rw [gui_n (by omega), gui_n (by omega)]
              exact ed o (by omega) (by omega) (by omega) (by omega)
            rw [eo _ (by omega) (by omega), eo _ (by omega) (by omega), eo _ (by omega) (by omega), xl _ (by omega) (by omega) (by omega) (by omega), xl _ (by omega) (by omega) (by omega) (by omega), xl _ (by omega) (by omega) (by omega) (by omega)]
            exact hSA.2.2.2 k hk
          · rw [gui_n (by omega), gui_n (by omega), d1.2.2.2.1 4 (by decide), gui_n (by omega), c1.2.2.2.1 4 (by decide), w1.2.2.2.1 4 (by decide), n1.2.2.2.1 4 (by decide), (q1.2.1 1 (by decide)).1, xl 0 (by decide) (by decide) (by omega) (by omega)]
            exact hL
          · refine ⟨⟨by rw [xl 0 (by decide) (by decide) (by omega) (by omega)]; exact l0, by rw [xl 1 (by decide) (by decide) (by omega) (by omega)]; exact l1, by rw [xl 2 (by decide) (by decide) (by omega) (by omega)]; exact l2, by rw [x3]; exact l3, by rw [x4]; exact l4, by rw [x5]; omega, by rw [x6]; exact l6⟩, ?_, ?_, ?_, ?_, ?_⟩
            · intro n hn
              rw [x3] at hn
              rw [xl _ (by omega) (by omega) (by omega) (by omega), xl _ (by omega) (by omega) (by omega) (by omega)]
              exact l7 n hn
            · intro n hn
              rw [x4] at hn
              rw [x3, xl _ (by omega) (by omega) (by omega) (by omega), xl _ (by omega) (by omega) (by omega) (by omega), xl _ (by omega) (by omega) (by omega) (by omega), xl _ (by omega) (by omega) (by omega) (by omega), xl _ (by omega) (by omega) (by omega) (by omega)]
              exact l8 n hn
            · intro n hn
              rw [x5] at hn
              rw [x3]
              by_cases q : n = T 5
              · rw [q, xa, xc]
                exact ⟨hva3, hv2.2⟩
              · rw [xl _ (by omega) (by omega) (by omega) (by omega), xl _ (by omega) (by omega) (by omega) (by omega)]
                exact l9 n (by omega)
            · intro n hn
              rw [x6] at hn
              rw [x3, xl _ (by omega) (by omega) (by omega) (by omega), xl _ (by omega) (by omega) (by omega) (by omega), xl _ (by omega) (by omega) (by omega) (by omega)]
              exact l10 n hn
            · intro n hn
              have z1 := zs n hn
              have z2 := l11 n hn
              rw [x3, x4, x5, xh _ (by omega)]
              omega
        · first | have g70 := of_decide_eq_true c70 | have g70 := of_decide_eq_false c70 | skip
          refine gj_iconst (pc' := 74) dX4_readStray_73 rfl ?_
          refine gj_zret rfl (by first | rfl | exact gnZ _ | assumption) dX4_readStray_74 ?_
          rw [hr]
          exact lnQ_1 g70 f4 d3
      · first | have g40 := of_decide_eq_true c40 | have g40 := of_decide_eq_false c40 | skip
        refine gj_iconst (pc' := 44) dX4_readStray_43 rfl ?_
        refine gj_zret rfl (by first | rfl | exact gnZ _ | assumption) dX4_readStray_44 ?_
        rw [hr]
        first
        | exact lnQ_1 g23 f1 n3
        | exact lnQ_1 g32 f2 w3
        | exact lnQ_1 g40 f3 c3
