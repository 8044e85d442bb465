/-! storms: days aloft, the model -/
theorem m_aloftOf {h : gH} {T S : Nat → Nat} {b x : Nat} (hM : MI h T S) (hb : b < T 4) (hs : h.1 142 34 = (x : Int)) (hx : x < 65537) : gSp 8 yX11_aloftOf cX11_aloftOf 4 (some .int) [.ref 142, .int (zI (b : Int))] h (fun v h' => v = some (.int (zI (alF (tFl T b) (T 2) x))) ∧ h'.2 = h.2 ∧ (∀ o, o ≠ 142 → h'.1 o = h.1 o) ∧ (∀ k, k ≠ 34 → h'.1 142 k = h.1 142 k) ∧ h'.1 142 34 = (sdN x (alE (tFl T b) (T 2) x) : Int)) := by
  obtain ⟨-, hT, hS⟩ := id hM
  have h4 : T 4 ≤ 7 := hT.2.2.2.2.1
  have h22 := hT.2.2.1
  have hfl := tFl_le hT hb
  refine gSp_of (by decide +kernel) (Nat.le_of_ble_eq_true rfl) ?_
  show gJ RX11 cX11_aloftOf 4 (some .int) _ 0 [some (.ref 142), some (.int (zI (b : Int))), none, none] [] _ _
  refine gj_iconst (pc' := 1) dX11_aloftOf_0 rfl ?_
  refine gj_istore_n (pc' := 2) dX11_aloftOf_1 rfl (by decide) ?_
  refine gj_iconst (pc' := 3) dX11_aloftOf_2 rfl ?_
  refine gj_istore_n (pc' := 4) dX11_aloftOf_3 rfl (by decide) ?_
  refine gJ_wk (gJ_fH1 (L := fun k z => [some (.ref 142), some (.int (zI (b : Int))), some (.int (zI z)), some (.int (zI (k : Int)))]) (I := fun k z hp => z = (nrN (T 2) x k : Int) ∧ nrN (T 2) x k ≤ tFl T b ∧ fstN (fun k => nrN (T 2) x k == tFl T b) k = -2 ∧ hp.2 = h.2 ∧ (∀ o, o ≠ 142 → hp.1 o = h.1 o) ∧ (∀ k, k ≠ 34 → hp.1 142 k = h.1 142 k) ∧ hp.1 142 34 = (sdN x k : Int)) (90) (fun k z hp hb_k iv_k ih_k => ?step_1) (0) (Nat.zero_le _) ?z0_1 _ ?iv0_1) ?ll0_1
  case ll0_1 =>
    repeat' (first | exact True.intro | with_reducible exact rfl | refine And.intro ?_ ?_ | refine vI ?_ | refine vL ?_)
    all_goals first | rfl | omega
  case iv0_1 =>
    exact ⟨rfl, Nat.zero_le _, rfl, rfl, fun _ _ => rfl, fun _ _ => rfl, hs⟩
  obtain ⟨rfl, i1, i2, i3, i4, i5, i6⟩ := iv_k
  have es := fstN_s (fun k => nrN (T 2) x k == tFl T b) k
  have hsd := sdN_lt hx k
  have hM2 : MI hp T S := hM.nt (i4 145 (by decide)) (i4 147 (by decide))
  have en : nrN (T 2) x (k + 1) = nrN (T 2) x k + (if (75 * sdN x k + 74) % 65537 % 100 < T 2 then 0 else 1) := rfl
  refine gj_iload_n (pc' := 5) dX11_aloftOf_4 rfl rfl ?_
  refine gj_aload_n (pc' := 6) dX11_aloftOf_5 rfl rfl ?_
  refine gj_iload_n (pc' := 7) dX11_aloftOf_6 rfl rfl ?_
  refine gr_X11_259 (pc' := 10) dX11_aloftOf_7 rfl (m_flightOf hM2 hb) rfl (by first | rfl | assumption) (by decide) rfl (Nat.le_of_ble_eq_true rfl) ?_
  refine gj_icmp_ge (pc' := 13) (tgt := 67) dX11_aloftOf_10 (by decide) rfl (by omega) (fun c10 => ?_) (fun c10 => ?_)
  · refine gj_iload_n (pc' := 68) dX11_aloftOf_67 rfl rfl ?_
    refine gj_aload_n (pc' := 69) dX11_aloftOf_68 rfl rfl ?_
    refine gj_iload_n (pc' := 70) dX11_aloftOf_69 rfl rfl ?_
    refine gr_X11_259 (pc' := 73) dX11_aloftOf_70 rfl (m_flightOf hM2 hb) rfl (by first | rfl | assumption) (by decide) rfl (Nat.le_of_ble_eq_true rfl) ?_
    refine gj_icmp_ne (pc' := 76) (tgt := 80) dX11_aloftOf_73 (by decide) rfl (by omega) (fun c73 => ?_) (fun c73 => ?_)
    · refine gj_bipush (pc' := 82) dX11_aloftOf_80 rfl (by decide) ?_
      refine gj_iret rfl dX11_aloftOf_82 ?_
      by_cases q9 : nrN (T 2) x k = tFl T b
      · have ea : alF (tFl T b) (T 2) x = (k : Int) := fstN_hit i2 (beq_iff_eq.mpr q9) (by omega)
        have ee : alE (tFl T b) (T 2) x = k := by
          unfold alE
          rw [ea, if_neg (by omega), Int.toNat_natCast]
        rw [ea, ee]
        first
        | (exfalso; omega)
        | exact ⟨rfl, i3, i4, i5, i6⟩
      · have hk9 : k = 90 := by omega
        have ea : alF (tFl T b) (T 2) x = -2 := by
          rw [beq_eq_false_iff_ne.mpr q9, if_neg (fun z => Bool.false_ne_true z.2), i2, hk9] at es
          exact es
        have ee : alE (tFl T b) (T 2) x = k := by
          unfold alE
          rw [if_pos ea, hk9]
        rw [ea, ee]
        first
        | (exfalso; omega)
        | exact ⟨rfl, i3, i4, i5, i6⟩
    · refine gj_iload_n (pc' := 77) dX11_aloftOf_76 rfl rfl ?_
      refine gj_goto (pc' := 82) dX11_aloftOf_77 (by decide) ?_
      refine gj_iret rfl dX11_aloftOf_82 ?_
      by_cases q9 : nrN (T 2) x k = tFl T b
      · have ea : alF (tFl T b) (T 2) x = (k : Int) := fstN_hit i2 (beq_iff_eq.mpr q9) (by omega)
        have ee : alE (tFl T b) (T 2) x = k := by
          unfold alE
          rw [ea, if_neg (by omega), Int.toNat_natCast]
        rw [ea, ee]
        first
        | (exfalso; omega)
        | exact ⟨rfl, i3, i4, i5, i6⟩
      · have hk9 : k = 90 := by omega
        have ea : alF (tFl T b) (T 2) x = -2 := by
          rw [beq_eq_false_iff_ne.mpr q9, if_neg (fun z => Bool.false_ne_true z.2), i2, hk9] at es
          exact es
        have ee : alE (tFl T b) (T 2) x = k := by
          unfold alE
          rw [if_pos ea, hk9]
        rw [ea, ee]
        first
        | (exfalso; omega)
        | exact ⟨rfl, i3, i4, i5, i6⟩
  · refine gj_iload_n (pc' := 14) dX11_aloftOf_13 rfl rfl ?_
    refine gj_bipush (pc' := 16) dX11_aloftOf_14 rfl (by decide) ?_
    refine gj_icmp_ge (pc' := 19) (tgt := 67) dX11_aloftOf_16 (by decide) rfl (by omega) (fun c16 => ?_) (fun c16 => ?_)
    · refine gj_iload_n (pc' := 68) dX11_aloftOf_67 rfl rfl ?_
      refine gj_aload_n (pc' := 69) dX11_aloftOf_68 rfl rfl ?_
      refine gj_iload_n (pc' := 70) dX11_aloftOf_69 rfl rfl ?_
      refine gr_X11_259 (pc' := 73) dX11_aloftOf_70 rfl (m_flightOf hM2 hb) rfl (by first | rfl | assumption) (by decide) rfl (Nat.le_of_ble_eq_true rfl) ?_
      refine gj_icmp_ne (pc' := 76) (tgt := 80) dX11_aloftOf_73 (by decide) rfl (by omega) (fun c73 => ?_) (fun c73 => ?_)
      · refine gj_bipush (pc' := 82) dX11_aloftOf_80 rfl (by decide) ?_
        refine gj_iret rfl dX11_aloftOf_82 ?_
        by_cases q9 : nrN (T 2) x k = tFl T b
        · have ea : alF (tFl T b) (T 2) x = (k : Int) := fstN_hit i2 (beq_iff_eq.mpr q9) (by omega)
          have ee : alE (tFl T b) (T 2) x = k := by
            unfold alE
            rw [ea, if_neg (by omega), Int.toNat_natCast]
          rw [ea, ee]
          first
          | (exfalso; omega)
          | exact ⟨rfl, i3, i4, i5, i6⟩
        · have hk9 : k = 90 := by omega
          have ea : alF (tFl T b) (T 2) x = -2 := by
            rw [beq_eq_false_iff_ne.mpr q9, if_neg (fun z => Bool.false_ne_true z.2), i2, hk9] at es
            exact es
          have ee : alE (tFl T b) (T 2) x = k := by
            unfold alE
            rw [if_pos ea, hk9]
          rw [ea, ee]
          first
          | (exfalso; omega)
          | exact ⟨rfl, i3, i4, i5, i6⟩
      · refine gj_iload_n (pc' := 77) dX11_aloftOf_76 rfl rfl ?_
        refine gj_goto (pc' := 82) dX11_aloftOf_77 (by decide) ?_
        refine gj_iret rfl dX11_aloftOf_82 ?_
        by_cases q9 : nrN (T 2) x k = tFl T b
        · have ea : alF (tFl T b) (T 2) x = (k : Int) := fstN_hit i2 (beq_iff_eq.mpr q9) (by omega)
          have ee : alE (tFl T b) (T 2) x = k := by
            unfold alE
            rw [ea, if_neg (by omega), Int.toNat_natCast]
          rw [ea, ee]
          first
          | (exfalso; omega)
          | exact ⟨rfl, i3, i4, i5, i6⟩
        · have hk9 : k = 90 := by omega
          have ea : alF (tFl T b) (T 2) x = -2 := by
            rw [beq_eq_false_iff_ne.mpr q9, if_neg (fun z => Bool.false_ne_true z.2), i2, hk9] at es
            exact es
          have ee : alE (tFl T b) (T 2) x = k := by
            unfold alE
            rw [if_pos ea, hk9]
          rw [ea, ee]
          first
          | (exfalso; omega)
          | exact ⟨rfl, i3, i4, i5, i6⟩
    · refine gj_aload_n (pc' := 20) dX11_aloftOf_19 rfl rfl ?_
      refine gj_bipush (pc' := 22) dX11_aloftOf_20 rfl (by decide) ?_
      refine gj_aload_n (pc' := 23) dX11_aloftOf_22 rfl rfl ?_
      refine gf_X11_394 (pc' := 26) dX11_aloftOf_23 rfl (by first | rfl | assumption) rfl ?_
      rw [i6]
      refine gj_imul (pc' := 27) dX11_aloftOf_26 rfl ?_
      refine gj_bipush (pc' := 29) dX11_aloftOf_27 rfl (by decide) ?_
      refine gj_iadd (pc' := 30) dX11_aloftOf_29 rfl ?_
      refine gj_ldcw (z := 65537) (pc' := 33) dX11_aloftOf_30 rfl (gtb_at 1870 (by decide +kernel) rfl) ?_
      refine gj_irem (pc' := 34) dX11_aloftOf_33 rfl (by omega) (by omega) ?_
      rw [show (75 * (sdN x k : Int) + 74) % 65537 = (((75 * sdN x k + 74) % 65537 : Nat) : Int) by omega]
      refine gp_X11_394 (pc' := 37) dX11_aloftOf_34 rfl (by first | rfl | assumption) rfl ?_
      refine gj_iinc (pc' := 40) dX11_aloftOf_37 rfl rfl (by decide) ?_
      refine gj_iload_n (pc' := 41) dX11_aloftOf_40 rfl rfl ?_
      refine gj_aload_n (pc' := 42) dX11_aloftOf_41 rfl rfl ?_
      refine gf_X11_394 (pc' := 45) dX11_aloftOf_42 rfl (by first | rfl | assumption) rfl ?_
      rw [gui_s, up1_s]
      refine gj_bipush (pc' := 47) dX11_aloftOf_45 rfl (by decide) ?_
      refine gj_irem (pc' := 48) dX11_aloftOf_47 rfl (by omega) (by omega) ?_
      refine gj_aload_n (pc' := 49) dX11_aloftOf_48 rfl rfl ?_
      refine gf_X11_20 (pc' := 52) dX11_aloftOf_49 rfl (by first | rfl | assumption) rfl ?_
      refine gj_iconst (pc' := 53) dX11_aloftOf_52 rfl ?_
      refine gj_iald (pc' := 54) (j := 2) (by first | rfl | assumption) (by omega) (by omega) (by decide) dX11_aloftOf_53 rfl ?_
      rw [gui_n (by decide), hM2.1.1 2 (by decide)]
      refine gj_icmp_ge (pc' := 57) (tgt := 61) dX11_aloftOf_54 (by decide) rfl (by omega) (fun c54 => ?_) (fun c54 => ?_)
      · refine gj_iconst (pc' := 62) dX11_aloftOf_61 rfl ?_
        refine gj_iadd (pc' := 63) dX11_aloftOf_62 rfl ?_
        refine gj_istore_n (pc' := 64) dX11_aloftOf_63 rfl (by decide) ?_
        refine gj_goto (pc' := 4) dX11_aloftOf_64 (by decide) ?_
        refine gJ_wk (ih_k ?z_2 _ (by omega) ?iv_2) ?ll_2
        case ll_2 =>
          repeat' (first | exact True.intro | with_reducible exact rfl | refine And.intro ?_ ?_ | refine vI ?_ | refine vL ?_)
          all_goals omega
        have hne : (nrN (T 2) x k == tFl T b) = false := by
          rw [beq_eq_false_iff_ne]
          omega
        rw [hne, if_neg (fun z => Bool.false_ne_true z.2)] at es
        by_cases q8 : (75 * sdN x k + 74) % 65537 % 100 < T 2
        · rw [if_pos q8] at en
          first
          | (exfalso; omega)
          | exact ⟨by omega, by omega, es.trans i2, i3, fun o ho => (gui_n ho).trans (i4 o ho), fun j hj => by rw [gui_s, up1_n hj]; exact i5 j hj, by rw [gui_s, up1_s]; rfl⟩
        · rw [if_neg q8] at en
          first
          | (exfalso; omega)
          | exact ⟨by omega, by omega, es.trans i2, i3, fun o ho => (gui_n ho).trans (i4 o ho), fun j hj => by rw [gui_s, up1_n hj]; exact i5 j hj, by rw [gui_s, up1_s]; rfl⟩
      · refine gj_iconst (pc' := 58) dX11_aloftOf_57 rfl ?_
        refine gj_goto (pc' := 62) dX11_aloftOf_58 (by decide) ?_
        refine gj_iadd (pc' := 63) dX11_aloftOf_62 rfl ?_
        refine gj_istore_n (pc' := 64) dX11_aloftOf_63 rfl (by decide) ?_
        refine gj_goto (pc' := 4) dX11_aloftOf_64 (by decide) ?_
        refine gJ_wk (ih_k ?z_3 _ (by omega) ?iv_3) ?ll_3
        case ll_3 =>
          repeat' (first | exact True.intro | with_reducible exact rfl | refine And.intro ?_ ?_ | refine vI ?_ | refine vL ?_)
          all_goals omega
        have hne : (nrN (T 2) x k == tFl T b) = false := by
          rw [beq_eq_false_iff_ne]
          omega
        rw [hne, if_neg (fun z => Bool.false_ne_true z.2)] at es
        by_cases q8 : (75 * sdN x k + 74) % 65537 % 100 < T 2
        · rw [if_pos q8] at en
          first
          | (exfalso; omega)
          | exact ⟨by omega, by omega, es.trans i2, i3, fun o ho => (gui_n ho).trans (i4 o ho), fun j hj => by rw [gui_s, up1_n hj]; exact i5 j hj, by rw [gui_s, up1_s]; rfl⟩
        · rw [if_neg q8] at en
          first
          | (exfalso; omega)
          | exact ⟨by omega, by omega, es.trans i2, i3, fun o ho => (gui_n ho).trans (i4 o ho), fun j hj => by rw [gui_s, up1_n hj]; exact i5 j hj, by rw [gui_s, up1_s]; rfl⟩
