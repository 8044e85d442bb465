/-! the class's Reader: the line of what was seen -/
def lnK (B : Nat → Nat) (e : Nat) (T : Nat → Nat) (p : Nat) : Nat × Nat × (Nat → Nat) := bd (ptH B e T (-1) (tEn B e p)) (fun a p1 => bd (ptW B e 16 p1) (fun _ p2 => bd (ptI B e 0 30 p2) (fun d p3 => if sawS T a d = true then (3, tS B e p2, fun _ => 0) else bd (ptN B e 18 0 9 p3) (fun n p4 => (0, p4, uT (uT (uT (uT T (60 + 3 * T 6) a) (61 + 3 * T 6) d) (62 + 3 * T 6) n) 6 (T 6 + 1))))))
theorem s_readSeen {h : gH} {B : Nat → Nat} {e p t : Nat} {T : Nat → Nat} (ht : isT t) (hI : LI h B e p t T) (h6 : T 6 < 5) : gSp 9 yX4_readSeen cX4_readSeen 3 (some .boolean) [.ref 1] h (lnQ h B e t (lnK B e T p)) := by
  obtain ⟨hC, ⟨m, sl, hN⟩, hU, hTA, hSA, hD, hL, hTL⟩ := hI
  obtain ⟨t0, -⟩ := shT ht
  obtain ⟨s0, s1, s2, s3, s4, s5, s6, s7, -⟩ := shS ht
  have htt : t = 6 ∨ t = 29 := ht
  obtain ⟨⟨l0, l1, l2, l3, l4, l5, l6⟩, l7, l8, l9, l10, l11⟩ := id hTL
  have hr : lnK B e T p = bd (ptH B e T (-1) (tEn B e p)) (fun a p1 => bd (ptW B e 16 p1) (fun _ p2 => bd (ptI B e 0 30 p2) (fun d p3 => if sawS T a d = true then (3, tS B e p2, fun _ => 0) else bd (ptN B e 18 0 9 p3) (fun n p4 => (0, p4, uT (uT (uT (uT T (60 + 3 * T 6) a) (61 + 3 * T 6) d) (62 + 3 * T 6) n) 6 (T 6 + 1)))))) := rfl
  refine gSp_of (by decide +kernel) (Nat.le_of_ble_eq_true rfl) ?_
  show gJ RX4 cX4_readSeen 3 (some .boolean) _ 0 [some (.ref 1), none, none] [] _ _
  refine gj_aload_n (pc' := 1) dX4_readSeen_0 rfl rfl ?_
  refine gf_X4_31 (pc' := 4) dX4_readSeen_1 rfl (by first | rfl | assumption) rfl ?_
  rw [hD]
  refine gf_X4_107 (pc' := 7) dX4_readSeen_4 rfl (by first | rfl | assumption) rfl ?_
  refine gf_X4_119 (pc' := 10) dX4_readSeen_7 rfl (by first | rfl | assumption) rfl ?_
  rw [hSA.2.1]
  refine gj_istore_n (pc' := 11) dX4_readSeen_10 rfl (by decide) ?_
  refine gj_aload_n (pc' := 12) dX4_readSeen_11 rfl rfl ?_
  refine gf_X4_16 (pc' := 15) dX4_readSeen_12 rfl (by first | rfl | assumption) rfl ?_
  refine gc_X4_63 (pc' := 18) dX4_readSeen_15 rfl (s_stepT hC) rfl (by first | rfl | assumption) (by decide) rfl (Nat.le_of_ble_eq_true rfl) (fun v9 h9 q9 => ?_)
  obtain ⟨rfl, q1, q2⟩ := q9
  obtain ⟨ha, rfl⟩ : ∃ x, x = h9 := ⟨h9, rfl⟩
  show gJ _ _ _ _ _ _ _ [] _ _
  refine gj_aload_n (pc' := 19) dX4_readSeen_18 rfl rfl ?_
  refine gj_iconst (pc' := 20) dX4_readSeen_19 rfl ?_
  refine gc_X4_165 (pc' := 23) dX4_readSeen_20 rfl (s_takeHouse (u := -1) q2 (hN.re q1.re) hU (by decide)) rfl (by first | rfl | assumption) (by decide) rfl (Nat.le_of_ble_eq_true rfl) (fun v9 h9 q9 => ?_)
  obtain ⟨rfl, c1, c2, c3⟩ := q9
  obtain ⟨hc, rfl⟩ : ∃ x, x = h9 := ⟨h9, rfl⟩
  have f1 : frE h hc t := (q1.re.tr c1).fr t
  show gJ _ _ _ _ _ _ _ [.int (zI (bI _))] _ _
  first | refine gj_ifB_ne (pc' := 26) (tgt := 28) dX4_readSeen_23 (by decide) rfl (fun c23 => ?_) (fun c23 => ?_) | refine gj_if_ne (pc' := 26) (tgt := 28) dX4_readSeen_23 (by decide) rfl (by omega) (fun c23 => ?_) (fun c23 => ?_)
  · first | have g23 := of_decide_eq_true c23 | have g23 := of_decide_eq_false c23 | skip
    obtain ⟨b3, b4⟩ := c2 g23
    have hv1 := ptH_b g23
    obtain ⟨va, hva⟩ : ∃ w, w = (ptH B e T (-1) (tEn B e p)).2.1 := ⟨_, rfl⟩
    rw [bd_0 g23, ← hva] at hr
    rw [← hva] at hv1 b4
    refine gj_aload_n (pc' := 29) dX4_readSeen_28 rfl rfl ?_
    refine gf_X4_130 (pc' := 32) dX4_readSeen_29 rfl (by first | rfl | assumption) rfl ?_
    rw [b4]
    refine gj_istore_n (pc' := 33) dX4_readSeen_32 rfl (by decide) ?_
    refine gj_aload_n (pc' := 34) dX4_readSeen_33 rfl rfl ?_
    refine gj_ldcS (pc' := 36) dX4_readSeen_34 rfl (gstr_X4_175) ?_
    refine gc_X4_162 (pc' := 39) dX4_readSeen_36 rfl (s_takeWord (i := 16) b3 (by decide)) rfl (by first | rfl | assumption) (by decide) rfl (Nat.le_of_ble_eq_true rfl) (fun v9 h9 q9 => ?_)
    obtain ⟨rfl, w1, w2, w3⟩ := q9
    obtain ⟨hw, rfl⟩ : ∃ x, x = h9 := ⟨h9, rfl⟩
    have f2 : frE h hw t := f1.tr (w1.fr t)
    have hDw : hw.2.2 1 = t := by rw [f2.1]; exact hD
    show gJ _ _ _ _ _ _ _ [.int (zI (bI _))] _ _
    first | refine gj_ifB_eq (pc' := 42) (tgt := 52) dX4_readSeen_39 (by decide) rfl (fun c39 => ?_) (fun c39 => ?_) | refine gj_if_eq (pc' := 42) (tgt := 52) dX4_readSeen_39 (by decide) rfl (by omega) (fun c39 => ?_) (fun c39 => ?_)
    · first | have g39 := of_decide_eq_true c39 | have g39 := of_decide_eq_false c39 | skip
      refine gj_iconst (pc' := 53) dX4_readSeen_52 rfl ?_
      refine gj_zret rfl (by first | rfl | exact gnZ _ | assumption) dX4_readSeen_53 ?_
      rw [hr]
      first
      | exact lnQ_1 g39 f2 w3
      | exact lnQ_1 g49 f3 r3
    · first | have g39 := of_decide_eq_true c39 | have g39 := of_decide_eq_false c39 | skip
      obtain ⟨hCw, b8⟩ := w2 g39
      rw [bd_0 g39] at hr
      refine gj_aload_n (pc' := 43) dX4_readSeen_42 rfl rfl ?_
      refine gj_iconst (pc' := 44) dX4_readSeen_43 rfl ?_
      refine gj_bipush (pc' := 46) dX4_readSeen_44 rfl (by decide) ?_
      refine gc_X4_191 (pc' := 49) dX4_readSeen_46 rfl (s_isNumber (lo := 0) (hi := 30) hCw (by decide)) rfl (by first | rfl | assumption) (by decide) rfl (Nat.le_of_ble_eq_true rfl) (fun v9 h9 q9 => ?_)
      obtain ⟨rfl, r1, r2, r3⟩ := q9
      obtain ⟨hx, rfl⟩ : ∃ x, x = h9 := ⟨h9, rfl⟩
      have f3 : frE h hx t := f2.tr (r1.fr t)
      show gJ _ _ _ _ _ _ _ [.int (zI (bI _))] _ _
      first | refine gj_ifB_ne (pc' := 52) (tgt := 54) dX4_readSeen_49 (by decide) rfl (fun c49 => ?_) (fun c49 => ?_) | refine gj_if_ne (pc' := 52) (tgt := 54) dX4_readSeen_49 (by decide) rfl (by omega) (fun c49 => ?_) (fun c49 => ?_)
      · first | have g49 := of_decide_eq_true c49 | have g49 := of_decide_eq_false c49 | skip
        obtain ⟨ex, z1, z2, z3⟩ := r2 g49
        have hv2 := ptI_b g49
        rw [bd_0 g49, z2, z3] at hr
        rw [z2] at hv2
        rw [ex]
        have ec : ∀ o, o ≠ 1 → o ≠ 2 → hw.1 o = h.1 o := fun o o1 o2 => by
          rw [w1.2.1 o o1 o2, c1.2.1 o o1 o2, (q1.2.1 o o2).1]
        have hSw : StrA hw t T := hSA.up rfl rfl (fun _ _ _ => rfl) l5 l6 (fun o o1 o2 => ec o (by omega) (by omega))
        refine gj_aload_n (pc' := 55) dX4_readSeen_54 rfl rfl ?_
        refine gf_X4_31 (pc' := 58) dX4_readSeen_55 rfl (by first | rfl | assumption) rfl ?_
        rw [hDw]
        refine gf_X4_107 (pc' := 61) dX4_readSeen_58 rfl (by first | rfl | assumption) rfl ?_
        refine gj_iload_n (pc' := 62) dX4_readSeen_61 rfl rfl ?_
        refine gj_aload_n (pc' := 63) dX4_readSeen_62 rfl rfl ?_
        refine gf_X4_16 (pc' := 66) dX4_readSeen_63 rfl (by first | rfl | assumption) rfl ?_
        refine gf_X4_194 (pc' := 69) dX4_readSeen_66 rfl (by first | rfl | assumption) rfl ?_
        rw [hCw.2.2.2.2.2.2 z1]
        refine gc_X4_197 (pc' := 72) dX4_readSeen_69 rfl (s_wasSeen (a := va) ht hSw l6 (fun k hk => ⟨by have := l10 k hk; omega, (l10 k hk).2.1⟩) hv1.1 (hCw.wh z1)) rfl (by first | rfl | assumption) (by decide) rfl (Nat.le_of_ble_eq_true rfl) (fun v9 h9 q9 => ?_)
        obtain ⟨rfl, e9⟩ := q9
        rw [e9]
        clear e9
        show gJ _ _ _ _ _ _ _ [.int (zI (bI _))] _ _
        first | refine gj_ifB_eq (pc' := 75) (tgt := 81) dX4_readSeen_72 (by decide) rfl (fun c72 => ?_) (fun c72 => ?_) | refine gj_if_eq (pc' := 75) (tgt := 81) dX4_readSeen_72 (by decide) rfl (by omega) (fun c72 => ?_) (fun c72 => ?_)
        · first | have g72 := of_decide_eq_true c72 | have g72 := of_decide_eq_false c72 | skip
          rw [if_neg (by rw [c72]; decide)] at hr
          obtain ⟨vd, hvd⟩ : ∃ w, w = tWh B e (ptW B e 16 (ptH B e T (-1) (tEn B e p)).2.2).2.2 := ⟨_, rfl⟩
          have hwh := hCw.2.2.2.2.2.2 z1
          rw [← hvd] at hr hv2
          refine gj_aload_n (pc' := 82) dX4_readSeen_81 rfl rfl ?_
          refine gf_X4_31 (pc' := 85) dX4_readSeen_82 rfl (by first | rfl | assumption) rfl ?_
          rw [hDw]
          refine gf_X4_107 (pc' := 88) dX4_readSeen_85 rfl (by first | rfl | assumption) rfl ?_
          refine gf_X4_200 (pc' := 91) dX4_readSeen_88 rfl (by first | rfl | assumption) rfl ?_
          refine gj_iload_n (pc' := 92) dX4_readSeen_91 rfl rfl ?_
          refine gj_iload_n (pc' := 93) dX4_readSeen_92 rfl rfl ?_
          refine gj_iast (pc' := 94) (j := T 6) (by first | rfl | assumption) (by omega) (by omega) (by decide) dX4_readSeen_93 rfl ?_
          refine gj_aload_n (pc' := 95) dX4_readSeen_94 rfl rfl ?_
          refine gf_X4_31 (pc' := 98) dX4_readSeen_95 rfl (by first | rfl | assumption) rfl ?_
          rw [show ∀ x, (gui hw (t + 17) (T 6) x).2.2 1 = t from fun _ => hDw]
          refine gf_X4_107 (pc' := 101) dX4_readSeen_98 rfl (by first | rfl | assumption) rfl ?_
          refine gf_X4_203 (pc' := 104) dX4_readSeen_101 rfl (by first | rfl | assumption) rfl ?_
          refine gj_iload_n (pc' := 105) dX4_readSeen_104 rfl rfl ?_
          refine gj_aload_n (pc' := 106) dX4_readSeen_105 rfl rfl ?_
          refine gf_X4_16 (pc' := 109) dX4_readSeen_106 rfl (by first | rfl | assumption) rfl ?_
          refine gf_X4_194 (pc' := 112) dX4_readSeen_109 rfl (by first | rfl | assumption) rfl ?_
          rw [(hCw.p6 (o := t + 17) (k := T 6) (x := (va : Int)) (by omega)).2.2.2.2.2.2 z1, ← hvd]
          refine gj_iast (pc' := 113) (j := T 6) (by first | rfl | assumption) (by omega) (by omega) (by decide) dX4_readSeen_112 rfl ?_
          refine gj_aload_n (pc' := 114) dX4_readSeen_113 rfl rfl ?_
          refine gf_X4_16 (pc' := 117) dX4_readSeen_114 rfl (by first | rfl | assumption) rfl ?_
          refine gc_X4_63 (pc' := 120) dX4_readSeen_117 rfl (s_stepT ((hCw.p6 (o := t + 17) (k := T 6) (x := (va : Int)) (by omega)).p6 (o := t + 18) (k := T 6) (x := (vd : Int)) (by omega))) rfl (by first | rfl | assumption) (by decide) rfl (Nat.le_of_ble_eq_true rfl) (fun v9 h9 q9 => ?_)
          obtain ⟨rfl, u1, v2⟩ := q9
          obtain ⟨he, rfl⟩ : ∃ x, x = h9 := ⟨h9, rfl⟩
          have f4 : frE h he t := f2.tr ((frE.put ht (by omega)).tr ((frE.put ht (by omega)).tr (u1.re.fr t)))
          show gJ _ _ _ _ _ _ _ [] _ _
          refine gj_aload_n (pc' := 121) dX4_readSeen_120 rfl rfl ?_
          refine gj_ldcS (pc' := 123) dX4_readSeen_121 rfl (gstr_X4_206) ?_
          refine gj_iconst (pc' := 124) dX4_readSeen_123 rfl ?_
          refine gj_bipush (pc' := 126) dX4_readSeen_124 rfl (by decide) ?_
          refine gc_X4_126 (pc' := 129) dX4_readSeen_126 rfl (s_takeNumber (i := 18) (lo := 0) (hi := 9) v2 (by decide) (by decide)) rfl (by first | rfl | assumption) (by decide) rfl (Nat.le_of_ble_eq_true rfl) (fun v9 h9 q9 => ?_)
          obtain ⟨rfl, d1, d2, d3⟩ := q9
          obtain ⟨hd, rfl⟩ : ∃ x, x = h9 := ⟨h9, rfl⟩
          have f5 : frE h hd t := f4.tr (d1.fr t)
          have hDd : hd.2.2 1 = t := by rw [f5.1]; exact hD
          show gJ _ _ _ _ _ _ _ [.int (zI (bI _))] _ _
          first | refine gj_ifB_ne (pc' := 132) (tgt := 134) dX4_readSeen_129 (by decide) rfl (fun c129 => ?_) (fun c129 => ?_) | refine gj_if_ne (pc' := 132) (tgt := 134) dX4_readSeen_129 (by decide) rfl (by omega) (fun c129 => ?_) (fun c129 => ?_)
          · first | have g129 := of_decide_eq_true c129 | have g129 := of_decide_eq_false c129 | skip
            obtain ⟨b5, b6⟩ := d2 g129
            have hv3 := ptN_b g129
            rw [bd_0 g129] at hr
            have ed : ∀ o, o ≠ 1 → o ≠ 2 → o ≠ t + 17 → o ≠ t + 18 → hd.1 o = h.1 o := fun o o1 o2 ot ot2 => by
              rw [d1.2.1 o o1 o2, (u1.2.1 o o2).1, gui_n ot2, gui_n ot, ec o o1 o2]
            have et : hd.1 (t + 10) = h.1 (t + 10) := ed (t + 10) (by omega) (by omega) (by omega) (by omega)
            refine gj_aload_n (pc' := 135) dX4_readSeen_134 rfl rfl ?_
            refine gf_X4_31 (pc' := 138) dX4_readSeen_135 rfl (by first | rfl | assumption) rfl ?_
            rw [hDd]
            refine gf_X4_107 (pc' := 141) dX4_readSeen_138 rfl (by first | rfl | assumption) rfl ?_
            refine gf_X4_207 (pc' := 144) dX4_readSeen_141 rfl (by first | rfl | assumption) rfl ?_
            refine gj_iload_n (pc' := 145) dX4_readSeen_144 rfl rfl ?_
            refine gj_aload_n (pc' := 146) dX4_readSeen_145 rfl rfl ?_
            refine gf_X4_130 (pc' := 149) dX4_readSeen_146 rfl (by first | rfl | assumption) rfl ?_
            rw [b6]
            refine gj_iast (pc' := 150) (j := T 6) (by first | rfl | assumption) (by omega) (by omega) (by decide) dX4_readSeen_149 rfl ?_
            refine gj_aload_n (pc' := 151) dX4_readSeen_150 rfl rfl ?_
            refine gf_X4_31 (pc' := 154) dX4_readSeen_151 rfl (by first | rfl | assumption) rfl ?_
            rw [show ∀ x, (gui hd (t + 19) (T 6) x).2.2 1 = t from fun _ => hDd]
            refine gf_X4_107 (pc' := 157) dX4_readSeen_154 rfl (by first | rfl | assumption) rfl ?_
            refine gj_dup (pc' := 158) dX4_readSeen_157 rfl rfl ?_
            refine gf_X4_119 (pc' := 161) dX4_readSeen_158 rfl (by first | rfl | assumption) rfl ?_
            rw [show ∀ x, (gui hd (t + 19) (T 6) x).1 (t + 10) 4 = (T 6 : Int) from fun _ => by rw [gui_n (by omega), et]; exact hSA.2.1]
            refine gj_iconst (pc' := 162) dX4_readSeen_161 rfl ?_
            refine gj_iadd (pc' := 163) dX4_readSeen_162 rfl ?_
            refine gp_X4_119 (pc' := 166) dX4_readSeen_163 rfl (by first | rfl | assumption) rfl ?_
            refine gj_iconst (pc' := 167) dX4_readSeen_166 rfl ?_
            refine gj_zret rfl (by first | rfl | exact gnZ _ | assumption) dX4_readSeen_167 ?_
            rw [hr]
            obtain ⟨vc, hvc⟩ : ∃ w, w = (ptN B e 18 0 9 (tEn B e (ptW B e 16 (ptH B e T (-1) (tEn B e p)).2.2).2.2)).2.1 := ⟨_, rfl⟩
            rw [← hvc] at hv3 b6
            rw [← hvc]
            have e17 : hd.1 (t + 17) = up1 (h.1 (t + 17)) (T 6) (va : Int) := by
              rw [d1.2.1 (t + 17) (by omega) (by omega), (u1.2.1 (t + 17) (by omega)).1, gui_n (by omega), gui_s, ec (t + 17) (by omega) (by omega)]
            have e18 : hd.1 (t + 18) = up1 (h.1 (t + 18)) (T 6) (vd : Int) := by
              rw [d1.2.1 (t + 18) (by omega) (by omega), (u1.2.1 (t + 18) (by omega)).1, gui_s, gui_n (by omega), ec (t + 18) (by omega) (by omega)]
            have e19 := ed (t + 19) (by omega) (by omega) (by omega) (by omega)
            obtain ⟨T', hT'⟩ : ∃ T', T' = uT (uT (uT (uT T (60 + 3 * T 6) va) (61 + 3 * T 6) vd) (62 + 3 * T 6) vc) 6 (T 6 + 1) := ⟨_, rfl⟩
            rw [← hT']
            have x6 : T' 6 = T 6 + 1 := by rw [hT', uT_s]
            have xa : T' (60 + 3 * T 6) = va := by rw [hT', uT_n (by omega), uT_n (by omega), uT_n (by omega), uT_s]
            have xd : T' (61 + 3 * T 6) = vd := by rw [hT', uT_n (by omega), uT_n (by omega), uT_s]
            have xc : T' (62 + 3 * T 6) = vc := by rw [hT', uT_n (by omega), uT_s]
            have xl : ∀ x, x ≠ 6 → x ≠ 60 + 3 * T 6 → x ≠ 61 + 3 * T 6 → x ≠ 62 + 3 * T 6 → T' x = T x := fun x x2 x3 x4 x5 => by rw [hT', uT_n x2, uT_n x5, uT_n x4, uT_n x3]
            have xh : ∀ x, 75 ≤ x → T' x = T x := fun x hx => xl x (by omega) (by omega) (by omega) (by omega)
            have hva3 : va < T 3 := by
              have z2 := l11 va (by omega)
              omega
            have x3 := xl 3 (by decide) (by omega) (by omega) (by omega)
            have x4 := xl 4 (by decide) (by omega) (by omega) (by omega)
            have x5 := xl 5 (by decide) (by omega) (by omega) (by omega)
            refine lnQ_0 (f5.tr ((frE.put ht (by omega)).tr (frE.put ht (by omega)))) ⟨(b5.p6 (by omega)).p6 (by omega), ⟨m, sl, ((((((((((hN.re q1.re).re c1).re w1).p6 (by omega)).p6 (by omega)).re u1.re).re d1).p6 (by omega)).p6 (by omega)).cg xh)⟩, hU.cg xh, ?_, ⟨?_, ?_, fun k hk => ?_, fun k hk => ?_⟩, hDd, ?_, ?_⟩
            · refine hTA.sm (fun x hx => xl x (by omega) (by omega) (by omega) (by omega)) l3 l4 (fun o o1 o2 => ?_)
              rw [gui_n (by omega), gui_n (by omega)]
              exact ed o (by omega) (by omega) (by omega) (by omega)
            · rw [gui_s, up1_n (by decide), gui_n (by omega), et, x5]
              exact hSA.1
            · rw [gui_s, up1_s, x6]
              omega
            · rw [x5] at hk
              rw [gui_n (by omega), gui_n (by omega), gui_n (by omega), gui_n (by omega), ed (t + 11) (by omega) (by omega) (by omega) (by omega), ed (t + 12) (by omega) (by omega) (by omega) (by omega), xl _ (by omega) (by omega) (by omega) (by omega), xl _ (by omega) (by omega) (by omega) (by omega)]
              exact hSA.2.2.1 k hk
            · rw [gui_n (by omega), gui_n (by omega), gui_n (by omega), gui_n (by omega), gui_n (by omega), gui_s, e17, e18, e19]
              by_cases q : k = T 6
              · rw [q, up1_s, up1_s, up1_s, xa, xd, xc]
                exact ⟨rfl, rfl, rfl⟩
              · rw [x6] at hk
                rw [up1_n q, up1_n q, up1_n q, xl _ (by omega) (by omega) (by omega) (by omega), xl _ (by omega) (by omega) (by omega) (by omega), xl _ (by omega) (by omega) (by omega) (by omega)]
                exact hSA.2.2.2 k (by omega)
            · rw [gui_n (by omega), gui_n (by omega), d1.2.2.2.1 4 (by decide), (u1.2.1 1 (by decide)).1, gui_n (by omega), gui_n (by omega), w1.2.2.2.1 4 (by decide), c1.2.2.2.1 4 (by decide), (q1.2.1 1 (by decide)).1, xl 0 (by decide) (by omega) (by omega) (by omega)]
              exact hL
            · refine ⟨⟨by rw [xl 0 (by decide) (by omega) (by omega) (by omega)]; exact l0, by rw [xl 1 (by decide) (by omega) (by omega) (by omega)]; exact l1, by rw [xl 2 (by decide) (by omega) (by omega) (by omega)]; exact l2, by rw [x3]; exact l3, by rw [x4]; exact l4, by rw [x5]; exact l5, by rw [x6]; omega⟩, ?_, ?_, ?_, ?_, ?_⟩
              · intro n hn
                rw [x3] at hn
                rw [xl _ (by omega) (by omega) (by omega) (by omega), xl _ (by omega) (by omega) (by omega) (by omega)]
                exact l7 n hn
              · intro n hn
                rw [x4] at hn
                rw [x3, xl _ (by omega) (by omega) (by omega) (by omega), xl _ (by omega) (by omega) (by omega) (by omega), xl _ (by omega) (by omega) (by omega) (by omega), xl _ (by omega) (by omega) (by omega) (by omega), xl _ (by omega) (by omega) (by omega) (by omega)]
                exact l8 n hn
              · intro n hn
                rw [x5] at hn
                rw [x3, xl _ (by omega) (by omega) (by omega) (by omega), xl _ (by omega) (by omega) (by omega) (by omega)]
                exact l9 n hn
              · intro n hn
                rw [x6] at hn
                rw [x3]
                by_cases q : n = T 6
                · rw [q, xa, xd, xc]
                  exact ⟨hva3, hv2.2, hv3.2⟩
                · rw [xl _ (by omega) (by omega) (by omega) (by omega), xl _ (by omega) (by omega) (by omega) (by omega), xl _ (by omega) (by omega) (by omega) (by omega)]
                  exact l10 n (by omega)
              · intro n hn
                rw [x3, x4, x5, xh _ (by omega)]
                exact l11 n hn
          · first | have g129 := of_decide_eq_true c129 | have g129 := of_decide_eq_false c129 | skip
            refine gj_iconst (pc' := 133) dX4_readSeen_132 rfl ?_
            refine gj_zret rfl (by first | rfl | exact gnZ _ | assumption) dX4_readSeen_133 ?_
            rw [hr]
            exact lnQ_1 g129 f5 d3
        · first | have g72 := of_decide_eq_true c72 | have g72 := of_decide_eq_false c72 | skip
          refine gj_aload_n (pc' := 76) dX4_readSeen_75 rfl rfl ?_
          refine gj_iconst (pc' := 77) dX4_readSeen_76 rfl ?_
          refine gc_X4_66 (pc' := 80) dX4_readSeen_77 rfl (s_fail (k := 3) hCw.2.2.1) rfl (by first | rfl | assumption) (by decide) rfl (Nat.le_of_ble_eq_true rfl) (fun v9 h9 q9 => ?_)
          obtain ⟨rfl, k1, k2, k3⟩ := q9
          show gJ _ _ _ _ _ _ _ [.int (zI 0)] _ _
          refine gj_zret rfl (by first | rfl | exact gnZ _ | assumption) dX4_readSeen_80 ?_
          rw [if_pos c72] at hr
          rw [hr]
          exact ⟨rfl, f2.tr (k1.fr t), fun z => absurd (show (3 : Nat) = 0 from z) (by decide), fun _ => ⟨k2, k3⟩⟩
      · first | have g49 := of_decide_eq_true c49 | have g49 := of_decide_eq_false c49 | skip
        refine gj_iconst (pc' := 53) dX4_readSeen_52 rfl ?_
        refine gj_zret rfl (by first | rfl | exact gnZ _ | assumption) dX4_readSeen_53 ?_
        rw [hr]
        first
        | exact lnQ_1 g39 f2 w3
        | exact lnQ_1 g49 f3 r3
  · first | have g23 := of_decide_eq_true c23 | have g23 := of_decide_eq_false c23 | skip
    refine gj_iconst (pc' := 27) dX4_readSeen_26 rfl ?_
    refine gj_zret rfl (by first | rfl | exact gnZ _ | assumption) dX4_readSeen_27 ?_
    rw [hr]
    exact lnQ_1 g23 f1 c3
