/-! the class's Reader: the line of a house -/
theorem CTk.p6 {h : gH} {B : Nat → Nat} {e p o k : Nat} {x : Int} (a : CTk h B e p) (ho : 6 ≤ o) : CTk (gui h o k x) B e p := a.to (gui_n (by omega)) (gui_n (by omega)) rfl (by rw [gui_n (by omega)])
theorem CN.p6 {h : gH} {T : Nat → Nat} {m o k : Nat} {x : Int} {sl : Nat → Nat} (a : CN h T m sl) (ho : 6 ≤ o) : CN (gui h o k x) T m sl := a.to (by rw [gui_n (by omega)]) (gui_n (by omega)) rfl
theorem ptM_0 {B : Nat → Nat} {e p : Nat} {T : Nat → Nat} (g : (ptM B e T p).1 = 0) : tNm B e p = true ∧ fd T (tWd B e p) = -2 := by
  have hr : ptM B e T p = if tNm B e p = false then (1, tS B e p, 0) else if fd T (tWd B e p) ≠ -2 then (3, tS B e p, 0) else (0, 0, tEn B e p) := rfl
  by_cases q : tNm B e p = false
  · rw [if_pos q] at hr
    rw [hr] at g
    exact absurd (show (1 : Nat) = 0 from g) (by decide)
  · rw [if_neg q] at hr
    by_cases q2 : fd T (tWd B e p) ≠ -2
    · rw [if_pos q2] at hr
      rw [hr] at g
      exact absurd (show (3 : Nat) = 0 from g) (by decide)
    · refine ⟨?_, Decidable.of_not_not q2⟩
      cases z : tNm B e p with
      | true => rfl
      | false => exact absurd z q
theorem tkN_sl {B : Nat → Nat} {e p s : Nat} {T : Nat → Nat} (hp : p ≤ e) (g : (ptM B e T p).1 = 0) : ∀ n, n < 16 → (tkN B e T s p (75 + n) ≠ 0 ↔ T (75 + n) ≠ 0 ∨ n = s) := by
  intro n hn
  have htl := tk_let hp (tNm_1 (ptM_0 g).1)
  unfold tkN
  by_cases q : n = s
  · rw [q, adN_s]
    omega
  · rw [adN_sz hn q]
    omega
theorem tkN_lo {B : Nat → Nat} {e p s x : Nat} {T : Nat → Nat} (hx : x < 75) : tkN B e T s p x = T x := adN_lo hx
def nwQ (h : gH) (B : Nat → Nat) (e : Nat) (T : Nat → Nat) (s p : Nat) (v : Option Value) (h' : gH) : Prop := v = some (.int (zI (bI (decide ((ptM B e T p).1 = 0))))) ∧ rnE h h' ∧ ((ptM B e T p).1 = 0 → CTk h' B e (ptM B e T p).2.2 ∧ h'.1 1 5 = h.1 1 5 ∧ NU (tkN B e T s p) ∧ ∃ m' sl', CN h' (tkN B e T s p) m' sl') ∧ ((ptM B e T p).1 ≠ 0 → h'.1 1 6 = ((ptM B e T p).1 : Int) ∧ h'.1 1 7 = ((ptM B e T p).2.1 : Int))
theorem s_newNameH {h : gH} {B : Nat → Nat} {e p s m : Nat} {T sl : Nat → Nat} (hC : CTk h B e p) (hN : CN h T m sl) (hU : NU T) (hs : s < 6) (h0 : T (75 + s) = 0) : gSp 7 yX4_takeNewName cX4_takeNewName 2 (some .boolean) [.ref 1, .int (zI (s : Int))] h (nwQ h B e T s p) := by
  have a := s_newName hC hN hU (s := s) (by omega) h0
  rw [if_pos hs] at a
  exact a
theorem s_newNameB {h : gH} {B : Nat → Nat} {e p s m : Nat} {T sl : Nat → Nat} (hC : CTk h B e p) (hN : CN h T m sl) (hU : NU T) (hs : 6 ≤ s ∧ s < 16) (h0 : T (75 + s) = 0) : gSp 7 yX4_takeNewName cX4_takeNewName 2 (some .boolean) [.ref 1, .int (zI (-1))] h (nwQ h B e T s p) := by
  have a := s_newName hC hN hU (s := s) (by omega) h0
  rw [if_neg (by omega)] at a
  exact a
def lnH (B : Nat → Nat) (e : Nat) (T : Nat → Nat) (p : Nat) : Nat × Nat × (Nat → Nat) := bd (ptM B e T (tEn B e p)) (fun _ p1 => bd (ptN B e 8 0 99 p1) (fun a p2 => bd (ptN B e 9 0 300 p2) (fun c p3 => (0, p3, uT (uT (uT (tkN B e T (T 3) (tEn B e p)) (7 + 2 * T 3) a) (8 + 2 * T 3) c) 3 (T 3 + 1)))))
theorem s_readHouse {h : gH} {B : Nat → Nat} {e p t : Nat} {T : Nat → Nat} (ht : isT t) (hI : LI h B e p t T) (h3 : T 3 < 6) : gSp 9 yX4_readHouse cX4_readHouse 2 (some .boolean) [.ref 1] h (lnQ h B e t (lnH B e T p)) := by
  obtain ⟨hC, ⟨m, sl, hN⟩, hU, hTA, hSA, hD, hL, hTL⟩ := hI
  obtain ⟨t0, t1, t2, -⟩ := shT ht
  have htt : t = 6 ∨ t = 29 := ht
  obtain ⟨⟨l0, l1, l2, l3, l4, l5, l6⟩, l7, l8, l9, l10, l11⟩ := id hTL
  have hr : lnH B e T p = bd (ptM B e T (tEn B e p)) (fun _ p1 => bd (ptN B e 8 0 99 p1) (fun a p2 => bd (ptN B e 9 0 300 p2) (fun c p3 => (0, p3, uT (uT (uT (tkN B e T (T 3) (tEn B e p)) (7 + 2 * T 3) a) (8 + 2 * T 3) c) 3 (T 3 + 1))))) := rfl
  have hn0 : T (75 + T 3) = 0 := by
    have := l11 (T 3) (by omega)
    omega
  refine gSp_of (by decide +kernel) (Nat.le_of_ble_eq_true rfl) ?_
  show gJ RX4 cX4_readHouse 2 (some .boolean) _ 0 [some (.ref 1), none] [] _ _
  refine gj_aload_n (pc' := 1) dX4_readHouse_0 rfl rfl ?_
  refine gf_X4_31 (pc' := 4) dX4_readHouse_1 rfl (by first | rfl | assumption) rfl ?_
  rw [hD]
  refine gf_X4_70 (pc' := 7) dX4_readHouse_4 rfl (by first | rfl | assumption) rfl ?_
  rw [hTA.1 3 (by decide)]
  refine gj_istore_n (pc' := 8) dX4_readHouse_7 rfl (by decide) ?_
  refine gj_aload_n (pc' := 9) dX4_readHouse_8 rfl rfl ?_
  refine gf_X4_16 (pc' := 12) dX4_readHouse_9 rfl (by first | rfl | assumption) rfl ?_
  refine gc_X4_63 (pc' := 15) dX4_readHouse_12 rfl (s_stepT hC) rfl (by first | rfl | assumption) (by decide) rfl (Nat.le_of_ble_eq_true rfl) (fun v9 h9 q9 => ?_)
  obtain ⟨rfl, q1, q2⟩ := q9
  obtain ⟨ha, rfl⟩ : ∃ x, x = h9 := ⟨h9, rfl⟩
  show gJ _ _ _ _ _ _ _ [] _ _
  refine gj_aload_n (pc' := 16) dX4_readHouse_15 rfl rfl ?_
  refine gj_iload_n (pc' := 17) dX4_readHouse_16 rfl rfl ?_
  refine gc_X4_143 (pc' := 20) dX4_readHouse_17 rfl (s_newNameH q2 (hN.re q1.re) hU h3 hn0) rfl (by first | rfl | assumption) (by decide) rfl (Nat.le_of_ble_eq_true rfl) (fun v9 h9 q9 => ?_)
  obtain ⟨rfl, n1, n2, n3⟩ := q9
  obtain ⟨hb, rfl⟩ : ∃ x, x = h9 := ⟨h9, rfl⟩
  have f1 : frE h hb t := (q1.re.rn.tr n1).fr t
  show gJ _ _ _ _ _ _ _ [.int (zI (bI _))] _ _
  first | refine gj_ifB_eq (pc' := 23) (tgt := 35) dX4_readHouse_20 (by decide) rfl (fun c20 => ?_) (fun c20 => ?_) | refine gj_if_eq (pc' := 23) (tgt := 35) dX4_readHouse_20 (by decide) rfl (by omega) (fun c20 => ?_) (fun c20 => ?_)
  · first | have g20 := of_decide_eq_true c20 | have g20 := of_decide_eq_false c20 | skip
    refine gj_iconst (pc' := 36) dX4_readHouse_35 rfl ?_
    refine gj_zret rfl (by first | rfl | exact gnZ _ | assumption) dX4_readHouse_36 ?_
    rw [hr]
    first
    | exact lnQ_1 g20 f1 n3
    | exact lnQ_1 g32 f2 c3
  · first | have g20 := of_decide_eq_true c20 | have g20 := of_decide_eq_false c20 | skip
    obtain ⟨b1, b2, hU1, m1, sl1, hN1⟩ := n2 g20
    rw [bd_0 g20] at hr
    refine gj_aload_n (pc' := 24) dX4_readHouse_23 rfl rfl ?_
    refine gj_ldcS (pc' := 26) dX4_readHouse_24 rfl (gstr_X4_146) ?_
    refine gj_iconst (pc' := 27) dX4_readHouse_26 rfl ?_
    refine gj_bipush (pc' := 29) dX4_readHouse_27 rfl (by decide) ?_
    refine gc_X4_126 (pc' := 32) dX4_readHouse_29 rfl (s_takeNumber (i := 8) (lo := 0) (hi := 99) b1 (by decide) (by decide)) rfl (by first | rfl | assumption) (by decide) rfl (Nat.le_of_ble_eq_true rfl) (fun v9 h9 q9 => ?_)
    obtain ⟨rfl, c1, c2, c3⟩ := q9
    obtain ⟨hc, rfl⟩ : ∃ x, x = h9 := ⟨h9, rfl⟩
    have f2 : frE h hc t := f1.tr (c1.fr t)
    have hDc : hc.2.2 1 = t := by rw [f2.1]; exact hD
    show gJ _ _ _ _ _ _ _ [.int (zI (bI _))] _ _
    first | refine gj_ifB_ne (pc' := 35) (tgt := 37) dX4_readHouse_32 (by decide) rfl (fun c32 => ?_) (fun c32 => ?_) | refine gj_if_ne (pc' := 35) (tgt := 37) dX4_readHouse_32 (by decide) rfl (by omega) (fun c32 => ?_) (fun c32 => ?_)
    · first | have g32 := of_decide_eq_true c32 | have g32 := of_decide_eq_false c32 | skip
      obtain ⟨b3, b4⟩ := c2 g32
      have hv1 := ptN_b g32
      rw [bd_0 g32] at hr
      refine gj_aload_n (pc' := 38) dX4_readHouse_37 rfl rfl ?_
      refine gf_X4_31 (pc' := 41) dX4_readHouse_38 rfl (by first | rfl | assumption) rfl ?_
      rw [hDc]
      refine gf_X4_148 (pc' := 44) dX4_readHouse_41 rfl (by first | rfl | assumption) rfl ?_
      refine gj_iload_n (pc' := 45) dX4_readHouse_44 rfl rfl ?_
      refine gj_aload_n (pc' := 46) dX4_readHouse_45 rfl rfl ?_
      refine gf_X4_130 (pc' := 49) dX4_readHouse_46 rfl (by first | rfl | assumption) rfl ?_
      rw [b4]
      refine gj_iast (pc' := 50) (j := T 3) (by first | rfl | assumption) (by omega) (by omega) (by decide) dX4_readHouse_49 rfl ?_
      refine gj_aload_n (pc' := 51) dX4_readHouse_50 rfl rfl ?_
      refine gj_ldcS (pc' := 53) dX4_readHouse_51 rfl (gstr_X4_150) ?_
      refine gj_iconst (pc' := 54) dX4_readHouse_53 rfl ?_
      refine gj_sipush (pc' := 57) dX4_readHouse_54 rfl (by decide) ?_
      refine gc_X4_126 (pc' := 60) dX4_readHouse_57 rfl (s_takeNumber (i := 9) (lo := 0) (hi := 300) (b3.p6 (by omega)) (by decide) (by decide)) rfl (by first | rfl | assumption) (by decide) rfl (Nat.le_of_ble_eq_true rfl) (fun v9 h9 q9 => ?_)
      obtain ⟨rfl, d1, d2, d3⟩ := q9
      obtain ⟨hd, rfl⟩ : ∃ x, x = h9 := ⟨h9, rfl⟩
      have f3 : frE h hd t := f2.tr ((frE.put ht (by omega)).tr (d1.fr t))
      have hDd : hd.2.2 1 = t := by rw [f3.1]; exact hD
      show gJ _ _ _ _ _ _ _ [.int (zI (bI _))] _ _
      first | refine gj_ifB_ne (pc' := 63) (tgt := 65) dX4_readHouse_60 (by decide) rfl (fun c60 => ?_) (fun c60 => ?_) | refine gj_if_ne (pc' := 63) (tgt := 65) dX4_readHouse_60 (by decide) rfl (by omega) (fun c60 => ?_) (fun c60 => ?_)
      · first | have g60 := of_decide_eq_true c60 | have g60 := of_decide_eq_false c60 | skip
        obtain ⟨b5, b6⟩ := d2 g60
        have hv2 := ptN_b g60
        rw [bd_0 g60] at hr
        have ec : ∀ o, o ≠ 1 → o ≠ 2 → o ≠ 5 → hc.1 o = h.1 o := fun o o1 o2 o5 => by
          rw [c1.2.1 o o1 o2, n1.2.1 o o1 o2 o5, (q1.2.1 o o2).1]
        have ed : ∀ o, o ≠ 1 → o ≠ 2 → o ≠ 5 → o ≠ t + 1 → hd.1 o = h.1 o := fun o o1 o2 o5 ot => by
          rw [d1.2.1 o o1 o2, gui_n ot, ec o o1 o2 o5]
        have et : hd.1 t = h.1 t := ed t (by omega) (by omega) (by omega) (by omega)
        refine gj_aload_n (pc' := 66) dX4_readHouse_65 rfl rfl ?_
        refine gf_X4_31 (pc' := 69) dX4_readHouse_66 rfl (by first | rfl | assumption) rfl ?_
        rw [hDd]
        refine gf_X4_152 (pc' := 72) dX4_readHouse_69 rfl (by first | rfl | assumption) rfl ?_
        refine gj_iload_n (pc' := 73) dX4_readHouse_72 rfl rfl ?_
        refine gj_aload_n (pc' := 74) dX4_readHouse_73 rfl rfl ?_
        refine gf_X4_130 (pc' := 77) dX4_readHouse_74 rfl (by first | rfl | assumption) rfl ?_
        rw [b6]
        refine gj_iast (pc' := 78) (j := T 3) (by first | rfl | assumption) (by omega) (by omega) (by decide) dX4_readHouse_77 rfl ?_
        refine gj_aload_n (pc' := 79) dX4_readHouse_78 rfl rfl ?_
        refine gf_X4_31 (pc' := 82) dX4_readHouse_79 rfl (by first | rfl | assumption) rfl ?_
        rw [show ∀ x, (gui hd (t + 2) (T 3) x).2.2 1 = t from fun _ => hDd]
        refine gj_dup (pc' := 83) dX4_readHouse_82 rfl rfl ?_
        refine gf_X4_70 (pc' := 86) dX4_readHouse_83 rfl (by first | rfl | assumption) rfl ?_
        rw [show ∀ x, (gui hd (t + 2) (T 3) x).1 t 3 = (T 3 : Int) from fun _ => by rw [gui_n (by omega), et]; exact hTA.1 3 (by decide)]
        refine gj_iconst (pc' := 87) dX4_readHouse_86 rfl ?_
        refine gj_iadd (pc' := 88) dX4_readHouse_87 rfl ?_
        refine gp_X4_70 (pc' := 91) dX4_readHouse_88 rfl (by first | rfl | assumption) rfl ?_
        refine gj_iconst (pc' := 92) dX4_readHouse_91 rfl ?_
        refine gj_zret rfl (by first | rfl | exact gnZ _ | assumption) dX4_readHouse_92 ?_
        rw [hr]
        obtain ⟨va, hva⟩ : ∃ w, w = (ptN B e 8 0 99 (ptM B e T (tEn B e p)).2.2).2.1 := ⟨_, rfl⟩
        obtain ⟨vc, hvc⟩ : ∃ w, w = (ptN B e 9 0 300 (ptN B e 8 0 99 (ptM B e T (tEn B e p)).2.2).2.2).2.1 := ⟨_, rfl⟩
        rw [← hva] at hv1 b4
        rw [← hvc] at hv2 b6
        rw [← hva, ← hvc]
        have ea : hd.1 (t + 1) = up1 (h.1 (t + 1)) (T 3) (va : Int) := by
          rw [d1.2.1 (t + 1) (by omega) (by omega), gui_s, ec (t + 1) (by omega) (by omega) (by omega), ← hva]
        have e2 := ed (t + 2) (by omega) (by omega) (by omega) (by omega)
        obtain ⟨T', hT'⟩ : ∃ T', T' = uT (uT (uT (tkN B e T (T 3) (tEn B e p)) (7 + 2 * T 3) va) (8 + 2 * T 3) vc) 3 (T 3 + 1) := ⟨_, rfl⟩
        rw [← hT']
        have x3 : T' 3 = T 3 + 1 := by rw [hT', uT_s]
        have xa : T' (7 + 2 * T 3) = va := by rw [hT', uT_n (by omega), uT_n (by omega), uT_s]
        have xc : T' (8 + 2 * T 3) = vc := by rw [hT', uT_n (by omega), uT_s]
        have xl : ∀ x, x < 75 → x ≠ 3 → x ≠ 7 + 2 * T 3 → x ≠ 8 + 2 * T 3 → T' x = T x := fun x x1 x2 x3 x4 => by rw [hT', uT_n x2, uT_n x4, uT_n x3, tkN_lo x1]
        have xh : ∀ x, 75 ≤ x → T' x = tkN B e T (T 3) (tEn B e p) x := fun x hx => by rw [hT', uT_n (by omega), uT_n (by omega), uT_n (by omega)]
        refine lnQ_0 (f3.tr ((frE.put ht (by omega)).tr (frE.put ht (by omega)))) ⟨(b5.p6 (by omega)).p6 (by omega), ⟨m1, sl1, (((((hN1.re c1).p6 (by omega)).re d1).p6 (by omega)).p6 (by omega)).cg xh⟩, hU1.cg xh, ⟨fun k hk5 => ?_, fun k hk => ?_, fun b hb7 => ?_⟩, ?_, hDd, ?_, ?_⟩
        · rw [gui_s]
          by_cases q : k = 3
          · rw [q, up1_s, x3]
            omega
          · rw [up1_n q, gui_n (by omega), et, xl k (by omega) q (by omega) (by omega)]
            exact hTA.1 k hk5
        · rw [gui_n (by omega), gui_n (by omega), gui_n (by omega), gui_s, ea, e2]
          by_cases q : k = T 3
          · rw [q, up1_s, up1_s, xa, xc]
            exact ⟨rfl, rfl⟩
          · rw [x3] at hk
            rw [up1_n q, up1_n q, xl _ (by omega) (by omega) (by omega) (by omega), xl _ (by omega) (by omega) (by omega) (by omega)]
            exact hTA.2.1 k (by omega)
        · rw [xl 4 (by decide) (by decide) (by omega) (by omega)] at hb7
          unfold tNe
          have eo : ∀ o, t + 3 ≤ o → o ≤ t + 7 → (gui (gui hd (t + 2) (T 3) (vc : Int)) t 3 ((T 3 : Int) + 1)).1 o = h.1 o := fun o o1 o2 => by
            rw [gui_n (by omega), gui_n (by omega)]
            exact ed o (by omega) (by omega) (by omega) (by omega)
          rw [eo _ (by omega) (by omega), eo _ (by omega) (by omega), eo _ (by omega) (by omega), eo _ (by omega) (by omega), eo _ (by omega) (by omega), xl _ (by omega) (by omega) (by omega) (by omega), xl _ (by omega) (by omega) (by omega) (by omega), xl _ (by omega) (by omega) (by omega) (by omega), xl _ (by omega) (by omega) (by omega) (by omega), xl _ (by omega) (by omega) (by omega) (by omega)]
          exact hTA.2.2 b hb7
        · refine hSA.up (xl 5 (by decide) (by decide) (by omega) (by omega)) (xl 6 (by decide) (by decide) (by omega) (by omega)) (fun x hx hx2 => xl x hx2 (by omega) (by omega) (by omega)) l5 l6 (fun o o1 o2 => ?_)
          rw [gui_n (by omega), gui_n (by omega)]
          exact ed o (by omega) (by omega) (by omega) (by omega)
        · rw [gui_n (by omega), gui_n (by omega), d1.2.2.2.1 4 (by decide), gui_n (by omega), c1.2.2.2.1 4 (by decide), n1.2.2.2.1 4 (by decide), (q1.2.1 1 (by decide)).1, xl 0 (by decide) (by decide) (by omega) (by omega)]
          exact hL
        · refine ⟨⟨by rw [xl 0 (by decide) (by decide) (by omega) (by omega)]; exact l0, by rw [xl 1 (by decide) (by decide) (by omega) (by omega)]; exact l1, by rw [xl 2 (by decide) (by decide) (by omega) (by omega)]; exact l2, by rw [x3]; omega, by rw [xl 4 (by decide) (by decide) (by omega) (by omega)]; exact l4, by rw [xl 5 (by decide) (by decide) (by omega) (by omega)]; exact l5, by rw [xl 6 (by decide) (by decide) (by omega) (by omega)]; exact l6⟩, ?_, ?_, ?_, ?_, ?_⟩
          · intro n hn
            rw [x3] at hn
            by_cases q : n = T 3
            · rw [q, xa, xc]
              exact ⟨hv1.2, hv2.2⟩
            · rw [xl _ (by omega) (by omega) (by omega) (by omega), xl _ (by omega) (by omega) (by omega) (by omega)]
              exact l7 n (by omega)
          · intro n hn
            rw [xl 4 (by decide) (by decide) (by omega) (by omega)] at hn
            rw [x3, xl _ (by omega) (by omega) (by omega) (by omega), xl _ (by omega) (by omega) (by omega) (by omega), xl _ (by omega) (by omega) (by omega) (by omega), xl _ (by omega) (by omega) (by omega) (by omega), xl _ (by omega) (by omega) (by omega) (by omega)]
            obtain ⟨z1, z2, z3, z4⟩ := l8 n hn
            exact ⟨z1, by omega, by omega, z4⟩
          · intro n hn
            rw [xl 5 (by decide) (by decide) (by omega) (by omega)] at hn
            rw [x3, xl _ (by omega) (by omega) (by omega) (by omega), xl _ (by omega) (by omega) (by omega) (by omega)]
            have z := l9 n hn
            omega
          · intro n hn
            rw [xl 6 (by decide) (by decide) (by omega) (by omega)] at hn
            rw [x3, xl _ (by omega) (by omega) (by omega) (by omega), xl _ (by omega) (by omega) (by omega) (by omega), xl _ (by omega) (by omega) (by omega) (by omega)]
            have z := l10 n hn
            omega
          · intro n hn
            have z1 := tkN_sl (T := T) (s := T 3) (tEn_in hC.2.1).2.1 g20 n hn
            have z2 := l11 n hn
            rw [x3, xl 4 (by decide) (by decide) (by omega) (by omega), xl 5 (by decide) (by decide) (by omega) (by omega), xh _ (by omega)]
            omega
      · first | have g60 := of_decide_eq_true c60 | have g60 := of_decide_eq_false c60 | skip
        refine gj_iconst (pc' := 64) dX4_readHouse_63 rfl ?_
        refine gj_zret rfl (by first | rfl | exact gnZ _ | assumption) dX4_readHouse_64 ?_
        rw [hr]
        exact lnQ_1 g60 f3 d3
    · first | have g32 := of_decide_eq_true c32 | have g32 := of_decide_eq_false c32 | skip
      refine gj_iconst (pc' := 36) dX4_readHouse_35 rfl ?_
      refine gj_zret rfl (by first | rfl | exact gnZ _ | assumption) dX4_readHouse_36 ?_
      rw [hr]
      first
      | exact lnQ_1 g20 f1 n3
      | exact lnQ_1 g32 f2 c3
