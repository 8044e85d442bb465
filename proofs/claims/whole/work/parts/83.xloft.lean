/-! the class: loft -/
theorem s_start {h : gH} {t : Nat} {T : Nat → Nat} (ht : isT t) (hTA : TownA h t T) (h3 : T 3 ≤ 6) (h4 : T 4 ≤ 7) (s : gSt) : gSp 1 yX3_start cX3_start 3 none [.ref 52, .ref t] h (fun v h' => v = none ∧ h'.2 = h.2 ∧ (∀ o, o < 52 ∨ 55 < o → h'.1 o = h.1 o) ∧ PresIs h' T (stL T s).1) := by
  obtain ⟨t0, t1, t2, -⟩ := shT ht
  have htt : t = 6 ∨ t = 29 := ht
  refine gSp_of (by decide +kernel) (Nat.le_of_ble_eq_true rfl) ?_
  show gJ RX3 cX3_start 3 none _ 0 [some (.ref 52), some (.ref t), none] [] _ _
  refine gj_aload_n (pc' := 1) dX3_start_0 rfl rfl ?_
  refine gj_iconst (pc' := 2) dX3_start_1 rfl ?_
  refine gp_X3_23 (pc' := 5) dX3_start_2 rfl (by first | rfl | assumption) rfl ?_
  refine gj_aload_n (pc' := 6) dX3_start_5 rfl rfl ?_
  refine gj_iconst (pc' := 7) dX3_start_6 rfl ?_
  refine gp_X3_27 (pc' := 10) dX3_start_7 rfl (by first | rfl | assumption) rfl ?_
  refine gj_aload_n (pc' := 11) dX3_start_10 rfl rfl ?_
  refine gj_iconst (pc' := 12) dX3_start_11 rfl ?_
  refine gp_X3_30 (pc' := 15) dX3_start_12 rfl (by first | rfl | assumption) rfl ?_
  refine gj_iconst (pc' := 16) dX3_start_15 rfl ?_
  refine gj_istore_n (pc' := 17) dX3_start_16 rfl (by decide) ?_
  refine gJ_wk (gJ_fH0 (L := fun k  => [some (.ref 52), some (.ref t), some (.int (zI (k : Int)))]) (I := fun k  hp => hp.2 = h.2 ∧ (∀ o, o < 52 ∨ 55 < o → hp.1 o = h.1 o) ∧ (hp.1 52 0 = 0 ∧ hp.1 52 1 = 0 ∧ hp.1 52 2 = 0) ∧ (∀ j, j < k → hp.1 53 j = h.1 (t + 2) j ∧ hp.1 54 j = 0)) (6) (fun k  hp hb_k iv_k ih_k => ?step_1) (0) (Nat.zero_le _)  _ ?iv0_1) ?ll0_1
  case ll0_1 =>
    repeat' (first | exact True.intro | with_reducible exact rfl | refine And.intro ?_ ?_ | refine vI ?_ | refine vL ?_)
    all_goals first | rfl | omega
  case iv0_1 =>
    exact ⟨rfl, fun o ho => (gui_n (by omega)).trans ((gui_n (by omega)).trans (gui_n (by omega))), ⟨rfl, rfl, rfl⟩, fun j hj => absurd hj (Nat.not_lt_zero j)⟩
  obtain ⟨i1, i2, i3, i4⟩ := iv_k
  refine gj_iload_n (pc' := 18) dX3_start_17 rfl rfl ?_
  refine gj_bipush (pc' := 20) dX3_start_18 rfl (by decide) ?_
  refine gj_icmp_ge (pc' := 23) (tgt := 48) dX3_start_20 (by decide) rfl (by omega) (fun c20 => ?_) (fun c20 => ?_)
  · refine gj_iconst (pc' := 49) dX3_start_48 rfl ?_
    refine gj_istore_n (pc' := 50) dX3_start_49 rfl (by decide) ?_
    refine gJ_wk (gJ_fH0 (L := fun w  => [some (.ref 52), some (.ref t), some (.int (zI (w : Int)))]) (I := fun w  hp => hp.2 = h.2 ∧ (∀ o, o < 52 ∨ 55 < o → hp.1 o = h.1 o) ∧ (hp.1 52 0 = 0 ∧ hp.1 52 1 = 0 ∧ hp.1 52 2 = 0) ∧ (∀ j, j < 6 → hp.1 53 j = h.1 (t + 2) j ∧ hp.1 54 j = 0) ∧ (∀ j, j < w → hp.1 55 j = 0)) (7) (fun w  hp hb_w iv_w ih_w => ?step_2) (0) (Nat.zero_le _)  _ ?iv0_2) ?ll0_2
    case ll0_2 =>
      repeat' (first | exact True.intro | with_reducible exact rfl | refine And.intro ?_ ?_ | refine vI ?_ | refine vL ?_)
      all_goals first | rfl | omega
    case iv0_2 =>
      exact ⟨i1, i2, i3, fun j hj => i4 j (by omega), fun j hj => absurd hj (Nat.not_lt_zero j)⟩
    obtain ⟨j1, j2, j3, j4, j5⟩ := iv_w
    refine gj_iload_n (pc' := 51) dX3_start_50 rfl rfl ?_
    refine gj_bipush (pc' := 53) dX3_start_51 rfl (by decide) ?_
    refine gj_icmp_ge (pc' := 56) (tgt := 69) dX3_start_53 (by decide) rfl (by omega) (fun c53 => ?_) (fun c53 => ?_)
    · refine gj_vret rfl dX3_start_69 ?_
      refine ⟨rfl, j1, j2, ?_, ?_, ?_, fun k hk => ?_, fun b hb => ?_⟩
      · rw [stL_z (by omega)]; exact j3.1
      · rw [stL_z (by omega)]; exact j3.2.1
      · rw [stL_z (by omega)]; exact j3.2.2
      · rw [stL_c hk, stL_z (by omega)]
        obtain ⟨y1, y2⟩ := j4 k (by omega)
        exact ⟨y1.trans (hTA.2.1 k hk).2, y2⟩
      · rw [stL_z (by omega)]
        exact j5 b (by omega)
    · refine gj_aload_n (pc' := 57) dX3_start_56 rfl rfl ?_
      refine gf_X3_20 (pc' := 60) dX3_start_57 rfl (by first | rfl | assumption) rfl ?_
      refine gj_iload_n (pc' := 61) dX3_start_60 rfl rfl ?_
      refine gj_iconst (pc' := 62) dX3_start_61 rfl ?_
      refine gj_iast (pc' := 63) (j := w) (by first | rfl | assumption) (by omega) (by omega) (by decide) dX3_start_62 rfl ?_
      refine gj_iinc (pc' := 66) dX3_start_63 rfl rfl (by decide) ?_
      refine gj_goto (pc' := 50) dX3_start_66 (by decide) ?_
      refine gJ_wk (ih_w  _ (by omega) ?iv_3) ?ll_3
      case ll_3 =>
        repeat' (first | exact True.intro | with_reducible exact rfl | refine And.intro ?_ ?_ | refine vI ?_ | refine vL ?_)
        all_goals omega
      refine ⟨j1, fun o ho => (gui_n (by omega)).trans (j2 o ho), ⟨?_, ?_, ?_⟩, fun j hj => ?_, fun j hj => ?_⟩
      · rw [gui_n (by decide)]; exact j3.1
      · rw [gui_n (by decide)]; exact j3.2.1
      · rw [gui_n (by decide)]; exact j3.2.2
      · rw [gui_n (by decide), gui_n (by decide)]; exact j4 j hj
      · rw [gui_s]
        by_cases q : j = w
        · rw [q, up1_s]
        · rw [up1_n q]
          exact j5 j (by omega)
  · refine gj_aload_n (pc' := 24) dX3_start_23 rfl rfl ?_
    refine gf_X3_11 (pc' := 27) dX3_start_24 rfl (by first | rfl | assumption) rfl ?_
    refine gj_iload_n (pc' := 28) dX3_start_27 rfl rfl ?_
    refine gj_aload_n (pc' := 29) dX3_start_28 rfl rfl ?_
    refine gf_X3_33 (pc' := 32) dX3_start_29 rfl t0 rfl ?_
    refine gj_iload_n (pc' := 33) dX3_start_32 rfl rfl ?_
    refine gj_iald (pc' := 34) (j := k) t2 (by omega) (by omega) (by decide) dX3_start_33 rfl ?_
    rw [i2 (t + 2) (by omega)]
    refine gj_iast (pc' := 35) (j := k) (by first | rfl | assumption) (by omega) (by omega) (by decide) dX3_start_34 rfl ?_
    refine gj_aload_n (pc' := 36) dX3_start_35 rfl rfl ?_
    refine gf_X3_17 (pc' := 39) dX3_start_36 rfl (by first | rfl | assumption) rfl ?_
    refine gj_iload_n (pc' := 40) dX3_start_39 rfl rfl ?_
    refine gj_iconst (pc' := 41) dX3_start_40 rfl ?_
    refine gj_iast (pc' := 42) (j := k) (by first | rfl | assumption) (by omega) (by omega) (by decide) dX3_start_41 rfl ?_
    refine gj_iinc (pc' := 45) dX3_start_42 rfl rfl (by decide) ?_
    refine gj_goto (pc' := 17) dX3_start_45 (by decide) ?_
    refine gJ_wk (ih_k  _ (by omega) ?iv_4) ?ll_4
    case ll_4 =>
      repeat' (first | exact True.intro | with_reducible exact rfl | refine And.intro ?_ ?_ | refine vI ?_ | refine vL ?_)
      all_goals omega
    refine ⟨i1, fun o ho => (gui_n (by omega)).trans ((gui_n (by omega)).trans (i2 o ho)), ⟨?_, ?_, ?_⟩, fun j hj => ?_⟩
    · rw [gui_n (by decide), gui_n (by decide)]; exact i3.1
    · rw [gui_n (by decide), gui_n (by decide)]; exact i3.2.1
    · rw [gui_n (by decide), gui_n (by decide)]; exact i3.2.2
    · rw [gui_n (by decide), gui_s, gui_s, gui_n (by decide)]
      by_cases q : j = k
      · rw [q, up1_s, up1_s]
        exact ⟨rfl, rfl⟩
      · rw [up1_n q, up1_n q]
        exact i4 j (by omega)
/-- what loft leaves, in the class -/
def lofX (h : gH) (t : Nat) (T : Nat → Nat) (B : Nat → Nat) (n : Nat) (s : gSt) (a : Int) : Option Value → gH → Prop := fun v h' => (¬ (0 ≤ a ∧ a ≤ (n : Int)) → v = some (.int (zI (-1))) ∧ XS h h' ∧ h'.1 0 9 = 2) ∧ (∀ m : Nat, a = (m : Int) → m ≤ n → tlS B m 900) ∧ (∀ m : Nat, a = (m : Int) → m ≤ n → (rdR B m).1 ≠ 0 → v = some (.int (zI (-1))) ∧ h'.2.2 = h.2.2 ∧ (∀ o, o ≠ 0 → o ≠ 1 → o ≠ 2 → o ≠ 5 → (o < 35 - t ∨ 35 - t + 22 < o) → o ≠ 28 → o ≠ 51 → (o < 135 ∨ 142 ≤ o) → h'.1 o = h.1 o) ∧ h'.1 2 1 = 0 ∧ h'.1 0 7 = ((rdR B m).1 : Int) ∧ h'.1 0 8 = ((rdR B m).2.1 : Int) ∧ h'.1 0 9 = 4) ∧ (∀ m : Nat, a = (m : Int) → m ≤ n → (rdR B m).1 = 0 → v = some (.int (zI ((rdR B m).2.2 3 : Int))) ∧ h'.2.2 0 = 35 - t ∧ h'.2.2 1 = t ∧ h'.1 2 1 = 0 ∧ h'.1 0 7 = 0 ∧ h'.1 0 9 = 0 ∧ XST h' (35 - t) (rdR B m).2.2 (stL (rdR B m).2.2 s) ∧ StrI h' (35 - t) (rdR B m).2.2 ∧ SZ h' (35 - t) (rdR B m).2.2 (stL (rdR B m).2.2 s).1 ∧ (∀ o, 142 ≤ o → h'.1 o = h.1 o))
theorem x_loft {h : gH} {t n : Nat} {T B : Nat → Nat} {s : gSt} {a : Int} (hD : h.2.2 1 = 35 - t) (hX : XST h t T s) (hR : RX h n B) (ha : inB a) : gSp 14 yX10_loft cX10_loft 4 (some .int) [.ref 0, .int (zI a)] h (lofX h t T B n s a) := by
  obtain ⟨r1, r2, r3⟩ := id hR
  unfold inB at ha
  have ht : isT t := hX.1.1
  have hP : h.2.2 0 = t := hX.1.2.1
  have htt : t = 6 ∨ t = 29 := ht
  obtain ⟨td, htd⟩ : ∃ x, x = 35 - t := ⟨_, rfl⟩
  have hit : isT td := by
    show td = 6 ∨ td = 29
    omega
  have hdd : td = 6 ∨ td = 29 := hit
  obtain ⟨u0, -⟩ := shT hit
  unfold lofX
  rw [← htd] at hD ⊢
  refine gSp_of (by decide +kernel) (Nat.le_of_ble_eq_true rfl) ?_
  show gJ RX10 cX10_loft 4 (some .int) _ 0 [some (.ref 0), some (.int (zI a)), none, none] [] _ _
  refine gj_iload_n (pc' := 1) dX10_loft_0 rfl rfl ?_
  refine gj_if_lt (pc' := 4) (tgt := 18) dX10_loft_1 (by decide) rfl (by omega) (fun c1 => ?_) (fun c1 => ?_)
  · first | have g1 := of_decide_eq_true c1 | have g1 := of_decide_eq_false c1 | skip
    refine gj_aload_n (pc' := 19) dX10_loft_18 rfl rfl ?_
    refine gj_iconst (pc' := 20) dX10_loft_19 rfl ?_
    refine gc_X10_72 (pc' := 23) dX10_loft_20 rfl (x_refuse) rfl (by first | rfl | assumption) (by decide) rfl (Nat.le_of_ble_eq_true rfl) (fun v9 h9 q9 => ?_)
    obtain ⟨rfl, s1, s2⟩ := q9
    show gJ _ _ _ _ _ _ _ [.int (zI (-1))] _ _
    refine gj_iret rfl dX10_loft_23 ?_
    exact ⟨fun _ => ⟨rfl, s1, s2⟩, fun m e1 e2 => by exfalso; omega, fun m e1 e2 => by exfalso; omega, fun m e1 e2 => by exfalso; omega⟩
  · first | have g1 := of_decide_eq_true c1 | have g1 := of_decide_eq_false c1 | skip
    refine gj_iload_n (pc' := 5) dX10_loft_4 rfl rfl ?_
    refine gj_aload_n (pc' := 6) dX10_loft_5 rfl rfl ?_
    refine gf_X10_10 (pc' := 9) dX10_loft_6 rfl (by first | rfl | assumption) rfl ?_
    refine gf_X10_58 (pc' := 12) dX10_loft_9 rfl (by first | rfl | assumption) rfl ?_
    refine gf_X10_62 (pc' := 15) dX10_loft_12 rfl (by first | rfl | assumption) rfl ?_
    rw [r2]
    refine gj_icmp_le (pc' := 18) (tgt := 24) dX10_loft_15 (by decide) rfl (by omega) (fun c15 => ?_) (fun c15 => ?_)
    · obtain ⟨m, rfl⟩ : ∃ m : Nat, a = (m : Int) := ⟨a.toNat, by omega⟩
      refine gj_aload_n (pc' := 25) dX10_loft_24 rfl rfl ?_
      refine gf_X10_10 (pc' := 28) dX10_loft_25 rfl (by first | rfl | assumption) rfl ?_
      refine gf_X10_58 (pc' := 31) dX10_loft_28 rfl (by first | rfl | assumption) rfl ?_
      refine gj_iconst (pc' := 32) dX10_loft_31 rfl ?_
      refine gp_X10_62 (pc' := 35) dX10_loft_32 rfl (by first | rfl | assumption) rfl ?_
      refine gj_aload_n (pc' := 36) dX10_loft_35 rfl rfl ?_
      refine gf_X10_10 (pc' := 39) dX10_loft_36 rfl (by first | rfl | assumption) rfl ?_
      refine gj_iload_n (pc' := 40) dX10_loft_39 rfl rfl ?_
      refine gc_X10_76 (pc' := 43) dX10_loft_40 rfl (s_read (h := gui h 2 1 0) (B := B) (n := m) hit hD (by omega) (fun j hj => ⟨(r3 j (by omega)).1, by rw [gui_n (by decide)]; exact (r3 j (by omega)).2⟩)) rfl (by first | rfl | assumption) (by decide) rfl (Nat.le_of_ble_eq_true rfl) (fun v9 h9 q9 => ?_)
      obtain ⟨rfl, e1, e6, e7, eg, eTN⟩ := q9
      obtain ⟨hb, rfl⟩ : ∃ x, x = h9 := ⟨h9, rfl⟩
      have hTN : ∀ m' : Nat, (m : Int) = (m' : Int) → m' ≤ n → tlS B m' 900 := fun m' q _ => by
        have : m' = m := by omega
        rw [this]
        exact eTN
      have b21 : hb.1 2 1 = 0 := by rw [e1.2.2.2.2 1 (by decide), gui_s, up1_s]
      have bo : ∀ o, o ≠ 1 → o ≠ 2 → o ≠ 5 → (o < td ∨ td + 22 < o) → hb.1 o = h.1 o := fun o o1 o2 o5 ot => by
        rw [e1.2.1 o o1 o2 o5 ot, gui_n o2]
      show gJ _ _ _ _ _ _ _ [.int (zI (bI (decide ((rdR B m).1 = 0))))] _ _
      refine gj_istore_n (pc' := 44) dX10_loft_43 rfl (by decide) ?_
      refine gj_aload_n (pc' := 45) dX10_loft_44 rfl rfl ?_
      refine gj_aload_n (pc' := 46) dX10_loft_45 rfl rfl ?_
      refine gf_X10_10 (pc' := 49) dX10_loft_46 rfl (by first | rfl | assumption) rfl ?_
      refine gf_X10_80 (pc' := 52) dX10_loft_49 rfl (by first | rfl | assumption) rfl ?_
      rw [e6]
      refine gp_X10_83 (pc' := 55) dX10_loft_52 rfl (by first | rfl | assumption) rfl ?_
      refine gj_aload_n (pc' := 56) dX10_loft_55 rfl rfl ?_
      refine gj_aload_n (pc' := 57) dX10_loft_56 rfl rfl ?_
      refine gf_X10_10 (pc' := 60) dX10_loft_57 rfl (by first | rfl | assumption) rfl ?_
      refine gf_X10_86 (pc' := 63) dX10_loft_60 rfl (by first | rfl | assumption) rfl ?_
      refine gp_X10_89 (pc' := 66) dX10_loft_63 rfl (by first | rfl | assumption) rfl ?_
      obtain ⟨h1, hh1⟩ : ∃ x, x = gui (gui hb 0 7 ((rdR B m).1 : Int)) 0 8 (hb.1 1 7) := ⟨_, rfl⟩
      change gJ _ _ _ _ _ _ _ _ (gui (gui hb 0 7 ((rdR B m).1 : Int)) 0 8 (hb.1 1 7)) _
      rw [← hh1]
      have c2 : h1.2 = hb.2 := by rw [hh1]; rfl
      have co : ∀ o, o ≠ 0 → h1.1 o = hb.1 o := fun o ho => by rw [hh1, gui_n ho, gui_n ho]
      have c7 : h1.1 0 7 = ((rdR B m).1 : Int) := by rw [hh1]; rfl
      have c8 : h1.1 0 8 = hb.1 1 7 := by rw [hh1]; rfl
      clear hh1
      refine gj_iload_n (pc' := 67) dX10_loft_66 rfl rfl ?_
      first | refine gj_ifB_ne (pc' := 70) (tgt := 76) dX10_loft_67 (by decide) rfl (fun c67 => ?_) (fun c67 => ?_) | refine gj_if_ne (pc' := 70) (tgt := 76) dX10_loft_67 (by decide) rfl (by omega) (fun c67 => ?_) (fun c67 => ?_)
      · first | have g67 := of_decide_eq_true c67 | have g67 := of_decide_eq_false c67 | skip
        obtain ⟨gTV, gA', gB', gS'⟩ := eg g67
        have k1 : h1.2.2 1 = td := by rw [c2, e1.1]; exact hD
        have k0 : h1.2.2 0 = t := by rw [c2, e1.1]; exact hP
        refine gj_aload_n (pc' := 77) dX10_loft_76 rfl rfl ?_
        refine gf_X10_10 (pc' := 80) dX10_loft_77 rfl (by first | rfl | assumption) rfl ?_
        refine gf_X10_92 (pc' := 83) dX10_loft_80 rfl (by first | rfl | assumption) rfl ?_
        rw [k1]
        refine gj_astore_n (pc' := 84) dX10_loft_83 rfl (by decide) ?_
        refine gj_aload_n (pc' := 85) dX10_loft_84 rfl rfl ?_
        refine gf_X10_10 (pc' := 88) dX10_loft_85 rfl (by first | rfl | assumption) rfl ?_
        refine gj_aload_n (pc' := 89) dX10_loft_88 rfl rfl ?_
        refine gf_X10_54 (pc' := 92) dX10_loft_89 rfl (by first | rfl | assumption) rfl ?_
        rw [k0]
        refine gp_X10_92 (ks := []) (pc' := 95) dX10_loft_92 rfl ?_
        refine gj_aload_n (pc' := 96) dX10_loft_95 rfl rfl ?_
        refine gj_aload_n (pc' := 97) dX10_loft_96 rfl rfl ?_
        refine gp_X10_54 (ks := []) (pc' := 100) dX10_loft_97 rfl ?_
        obtain ⟨h2, hh2⟩ : ∃ x, x = gup (gup h1 1 t) 0 td := ⟨_, rfl⟩
        rw [← hh2]
        have d1 : h2.1 = hb.1 ∨ True := Or.inr trivial
        have do' : ∀ o, o ≠ 0 → h2.1 o = hb.1 o := fun o ho => by rw [hh2]; exact co o ho
        have d7 : h2.1 0 7 = 0 := by
          rw [hh2]
          exact c7.trans (by rw [g67]; rfl)
        have dP : h2.2.2 0 = td := by rw [hh2]; rfl
        have dD : h2.2.2 1 = t := by rw [hh2]; rfl
        clear hh2
        refine gj_aload_n (pc' := 101) dX10_loft_100 rfl rfl ?_
        refine gf_X10_19 (pc' := 104) dX10_loft_101 rfl (by first | rfl | assumption) rfl ?_
        refine gj_aload_n (pc' := 105) dX10_loft_104 rfl rfl ?_
        refine gf_X10_54 (pc' := 108) dX10_loft_105 rfl (by first | rfl | assumption) rfl ?_
        rw [dP]
        refine gc_X10_95 (pc' := 111) dX10_loft_108 rfl (s_start hit (gA'.to (fun o o1 o2 => do' o (by omega))) gTV.2.2.2.1.2 gTV.2.2.2.2.1 s) rfl (by first | rfl | assumption) (by decide) rfl (Nat.le_of_ble_eq_true rfl) (fun v9 h9 q9 => ?_)
        obtain ⟨rfl, f1, f2, f3⟩ := q9
        obtain ⟨hf, rfl⟩ : ∃ x, x = h9 := ⟨h9, rfl⟩
        show gJ _ _ _ _ _ _ _ [] _ _
        refine gj_aload_n (pc' := 112) dX10_loft_111 rfl rfl ?_
        refine gf_X10_26 (pc' := 115) dX10_loft_112 rfl (by first | rfl | assumption) rfl ?_
        refine gc_X10_99 (pc' := 118) dX10_loft_115 rfl (s_forget (hX.2.1.to (fun o o1 o2 => by rw [f2 o (by omega), do' o (by omega), bo o (by omega) (by omega) (by omega) (by omega)]))) rfl (by first | rfl | assumption) (by decide) rfl (Nat.le_of_ble_eq_true rfl) (fun v9 h9 q9 => ?_)
        obtain ⟨rfl, g1, g2, g3⟩ := q9
        obtain ⟨hg, rfl⟩ : ∃ x, x = h9 := ⟨h9, rfl⟩
        have eo : ∀ o, o ≠ 0 → o < 52 → hg.1 o = hb.1 o := fun o o0 o5 => by rw [g2 o (by omega), f2 o (by omega), do' o o0]
        have eP : hg.2.2 0 = td := by rw [g1, f1]; exact dP
        have eD : hg.2.2 1 = t := by rw [g1, f1]; exact dD
        have e07 : hg.1 0 7 = 0 := by rw [g2 0 (by decide), f2 0 (by decide)]; exact d7
        show gJ _ _ _ _ _ _ _ [] _ _
        refine gj_aload_n (pc' := 119) dX10_loft_118 rfl rfl ?_
        refine gj_aload_n (pc' := 120) dX10_loft_119 rfl rfl ?_
        refine gf_X10_54 (pc' := 123) dX10_loft_120 rfl (by first | rfl | assumption) rfl ?_
        rw [eP]
        refine gf_X10_102 (pc' := 126) dX10_loft_123 rfl u0 rfl ?_
        rw [(by rw [eo td (by omega) (by omega)]; exact gA'.1 3 (by decide) : hg.1 td 3 = ((rdR B m).2.2 3 : Int))]
        refine gc_X10_105 (pc' := 129) dX10_loft_126 rfl (x_grant) rfl (by first | rfl | assumption) (by decide) rfl (Nat.le_of_ble_eq_true rfl) (fun v9 h9 q9 => ?_)
        obtain ⟨rfl, p1, p2⟩ := q9
        obtain ⟨hi, rfl⟩ : ∃ x, x = h9 := ⟨h9, rfl⟩
        show gJ _ _ _ _ _ _ _ [.int (zI _)] _ _
        refine gj_iret rfl dX10_loft_129 ?_
        refine ⟨fun z => by exfalso; omega, hTN, fun m' q1 q2 g => ?_, fun m' q1 q2 g => ?_⟩
        · have : m' = m := by omega
          subst this
          exact absurd g67 g
        · have : m' = m := by omega
          subst this
          have io : ∀ o, o ≠ 0 → o ≠ 28 → o ≠ 51 → o < 52 → hi.1 o = hb.1 o := fun o o0 o28 o51 o52 => by
            rw [p1.2.1 o o0 (by omega) (by omega) (by omega) (by omega) (by omega) o28 o51]
            exact eo o o0 o52
          have iw : ∀ o, 52 ≤ o → o ≤ 134 → hi.1 o = hg.1 o := fun o o1 o2 => p1.2.1 o (by omega) (by omega) (by omega) (by omega) (by omega) (by omega) (by omega) (by omega)
          have iP : hi.2.2 0 = td := by rw [p1.1]; exact eP
          have hPI : PresIs hi (rdR B m').2.2 (stL (rdR B m').2.2 s).1 := by
            obtain ⟨z0, z1, z2, z3, z4⟩ := f3
            have q52 : ∀ o, 52 ≤ o → o ≤ 55 → hi.1 o = hf.1 o := fun o o1 o2 => (iw o o1 (by omega)).trans (g2 o (by omega))
            exact ⟨by rw [q52 52 (by decide) (by decide)]; exact z0, by rw [q52 52 (by decide) (by decide)]; exact z1, by rw [q52 52 (by decide) (by decide)]; exact z2, fun k hk => by rw [q52 53 (by decide) (by decide), q52 54 (by decide) (by decide)]; exact z3 k hk, fun b hb' => by rw [q52 55 (by decide) (by decide)]; exact z4 b hb'⟩
          have hTA2 : TownA hi td (rdR B m').2.2 := gA'.to (fun o o1 o2 => io o (by omega) (by omega) (by omega) (by omega))
          have hTB2 : TownB hi td (rdR B m').2.2 := gB'.to (io _ (by omega) (by omega) (by omega) (by omega)) (io _ (by omega) (by omega) (by omega) (by omega))
          have hSI : StrI hi td (rdR B m').2.2 := gS'.to gTV (fun o o1 o2 => io o (by omega) (by omega) (by omega) (by omega))
          have hSV := SV_L (s := s) gTV
          refine ⟨rfl, iP, by rw [p1.1]; exact eD, by rw [io 2 (by decide) (by decide) (by decide) (by decide)]; exact b21, by rw [p1.2.2 7 (by decide)]; exact e07, p2, ⟨⟨hit, iP, ⟨hTA2.1 3 (by decide), hTA2.1 4 (by decide), hSI.1.1⟩, ⟨gTV.2.2.2.1.2, gTV.2.2.2.2.1, gTV.2.2.2.2.2.1⟩, Or.inr ⟨hit, iP, gTV, hSV, hTA2, hTB2, hPI⟩⟩, ?_, stV_L gTV⟩, hSI, ⟨⟨hTA2.1 0 (by decide), hTA2.1 1 (by decide), hTA2.1 2 (by decide)⟩, hSI.1.2.1, ⟨hPI.1, hPI.2.1⟩, fun z => ?_⟩, fun o ho => ?_⟩
          · exact (g3 (rdR B m').2.2).to (fun o o1 o2 => iw o (by omega) o2)
          · have := gTV.2.2.2.1.1
            omega
          · rw [p1.2.1 o (by omega) (by omega) (by omega) (by omega) (by omega) (by omega) (by omega) (by omega), g2 o (by omega), f2 o (by omega), do' o (by omega), bo o (by omega) (by omega) (by omega) (by omega)]
      · first | have g67 := of_decide_eq_true c67 | have g67 := of_decide_eq_false c67 | skip
        refine gj_aload_n (pc' := 71) dX10_loft_70 rfl rfl ?_
        refine gj_iconst (pc' := 72) dX10_loft_71 rfl ?_
        refine gc_X10_72 (pc' := 75) dX10_loft_72 rfl (x_refuse) rfl (by first | rfl | assumption) (by decide) rfl (Nat.le_of_ble_eq_true rfl) (fun v9 h9 q9 => ?_)
        obtain ⟨rfl, s1, s2⟩ := q9
        obtain ⟨hc, rfl⟩ : ∃ x, x = h9 := ⟨h9, rfl⟩
        show gJ _ _ _ _ _ _ _ [.int (zI (-1))] _ _
        refine gj_iret rfl dX10_loft_75 ?_
        refine ⟨fun z => by exfalso; omega, hTN, fun m' q1 q2 g => ?_, fun m' q1 q2 g => ?_⟩
        · have : m' = m := by omega
          subst this
          refine ⟨rfl, by rw [s1.1, c2]; exact e1.1, fun o o0 o1 o2 o5 ot o28 o51 o135 => ?_, ?_, ?_, ?_, s2⟩
          · rw [s1.2.1 o o0 (by omega) (by omega) (by omega) (by omega) (by omega) o28 o51, co o o0]
            exact bo o o1 o2 o5 ot
          · rw [s1.2.1 2 (by decide) (by decide) (by decide) (by decide) (by decide) (by decide) (by decide) (by decide), co 2 (by decide)]; exact b21
          · rw [s1.2.2 7 (by decide)]; exact c7
          · rw [s1.2.2 8 (by decide), c8]; exact e7 g
        · have : m' = m := by omega
          subst this
          exact absurd g g67
    · refine gj_aload_n (pc' := 19) dX10_loft_18 rfl rfl ?_
      refine gj_iconst (pc' := 20) dX10_loft_19 rfl ?_
      refine gc_X10_72 (pc' := 23) dX10_loft_20 rfl (x_refuse) rfl (by first | rfl | assumption) (by decide) rfl (Nat.le_of_ble_eq_true rfl) (fun v9 h9 q9 => ?_)
      obtain ⟨rfl, s1, s2⟩ := q9
      show gJ _ _ _ _ _ _ _ [.int (zI (-1))] _ _
      refine gj_iret rfl dX10_loft_23 ?_
      exact ⟨fun _ => ⟨rfl, s1, s2⟩, fun m e1 e2 => by exfalso; omega, fun m e1 e2 => by exfalso; omega, fun m e1 e2 => by exfalso; omega⟩
