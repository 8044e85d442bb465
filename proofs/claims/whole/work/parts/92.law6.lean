/-! the law: cases 47 to 52 -/
theorem lo_X10_day : gOkM yX10_day 0 := ⟨by decide +kernel, by decide +kernel, by decide +kernel⟩
theorem lc_X10_day : Cond.code yX10_day cX10_day 1 (some .int) ∈ gtb := (gtb_at 1124 (by decide +kernel) rfl)
theorem lo_X11_day : gOkM yX11_day 0 := ⟨by decide +kernel, by decide +kernel, by decide +kernel⟩
theorem lc_X11_day : Cond.code yX11_day cX11_day 4 (some .int) ∈ gtb := (gtb_at 1878 (by decide +kernel) rfl)
theorem lo_X10_pay : gOkM yX10_pay 2 := ⟨by decide +kernel, by decide +kernel, by decide +kernel⟩
theorem lc_X10_pay : Cond.code yX10_pay cX10_pay 3 (some .int) ∈ gtb := (gtb_at 1144 (by decide +kernel) rfl)
theorem lo_X11_pay : gOkM yX11_pay 2 := ⟨by decide +kernel, by decide +kernel, by decide +kernel⟩
theorem lc_X11_pay : Cond.code yX11_pay cX11_pay 3 (some .int) ∈ gtb := (gtb_at 1886 (by decide +kernel) rfl)
theorem lo_X10_meet : gOkM yX10_meet 2 := ⟨by decide +kernel, by decide +kernel, by decide +kernel⟩
theorem lc_X10_meet : Cond.code yX10_meet cX10_meet 4 (some .int) ∈ gtb := (gtb_at 1152 (by decide +kernel) rfl)
theorem lo_X11_meet : gOkM yX11_meet 2 := ⟨by decide +kernel, by decide +kernel, by decide +kernel⟩
theorem lc_X11_meet : Cond.code yX11_meet cX11_meet 5 (some .int) ∈ gtb := (gtb_at 1890 (by decide +kernel) rfl)
theorem lo_X10_undo : gOkM yX10_undo 0 := ⟨by decide +kernel, by decide +kernel, by decide +kernel⟩
theorem lc_X10_undo : Cond.code yX10_undo cX10_undo 1 (some .boolean) ∈ gtb := (gtb_at 1166 (by decide +kernel) rfl)
theorem lo_X11_undo : gOkM yX11_undo 0 := ⟨by decide +kernel, by decide +kernel, by decide +kernel⟩
theorem lc_X11_undo : Cond.code yX11_undo cX11_undo 1 (some .boolean) ∈ gtb := (gtb_at 1894 (by decide +kernel) rfl)
theorem lo_X10_image : gOkM yX10_image 0 := ⟨by decide +kernel, by decide +kernel, by decide +kernel⟩
theorem lc_X10_image : Cond.code yX10_image cX10_image 2 (some .int) ∈ gtb := (gtb_at 1174 (by decide +kernel) rfl)
theorem lo_X11_image : gOkM yX11_image 0 := ⟨by decide +kernel, by decide +kernel, by decide +kernel⟩
theorem lc_X11_image : Cond.code yX11_image cX11_image 1 (some .int) ∈ gtb := (gtb_at 1902 (by decide +kernel) rfl)
theorem lo_X10_back : gOkM yX10_back 1 := ⟨by decide +kernel, by decide +kernel, by decide +kernel⟩
theorem lc_X10_back : Cond.code yX10_back cX10_back 2 (some .boolean) ∈ gtb := (gtb_at 1182 (by decide +kernel) rfl)
theorem lo_X11_back : gOkM yX11_back 1 := ⟨by decide +kernel, by decide +kernel, by decide +kernel⟩
theorem lc_X11_back : Cond.code yX11_back cX11_back 2 (some .boolean) ∈ gtb := (gtb_at 1906 (by decide +kernel) rfl)
theorem lk_47 {L : Nat} {xs : Nat → Int32} {κ σ i : Nat} {h : gH} (hi : i + 6 ≤ L) (hL3 : L ≤ 3072) (hκ : κ + 2 ≤ 601024) (hσ : σ + 20 ≤ 7293034) (hI : LI2 h) (K : ∀ h', LI2 h' → gK L xs (κ + 2) (σ + 20) 1882 [some (.ref 2000), some (.ref 0), some (.ref 142), some (.ref 156), some (.int (zI (i : Int))), none, none] [] h') : gK L xs κ σ 1650 [some (.ref 2000), some (.ref 0), some (.ref 142), some (.ref 156), some (.int (zI (i : Int))), none, none] [] h := by
  obtain ⟨t, n, T, B, s, q, hI⟩ := hI
  by_cases h3 : T 3 = 0
  · obtain ⟨z4, z5, zu, zi⟩ := hI.zero h3
    have er : rDay T s = ((((-1), 1) : Int × Int), s) := by
      unfold rDay
      rw [if_pos h3]
    refine gk_aload_n (pc' := 1651) dL_law_1650 rfl rfl ?_
    refine gk_callV (C := RX10) (ci := 9) (rest := []) (x_day0 hI.1.1 h3) lo_X10_day (gtb_at 1121 (by decide +kernel) rfl) (gtb_at 1122 (by decide +kernel) rfl) (gtb_at 1123 (by decide +kernel) rfl) (gtb_at 1 (by decide +kernel) rfl) lc_X10_day (by decide) rfl rfl (by decide) (by omega) (by omega) rfl (Nat.le_of_ble_eq_true rfl) dL_law_1651 rfl (fun v9 h1 q1 => ?_)
    obtain ⟨rfl, b, b9⟩ := q1
    show gK _ _ _ _ _ _ [.int (zI _)] _
    refine gk_aload_n (pc' := 1655) dL_law_1654 rfl rfl ?_
    refine gk_callV (C := RX11) (ci := 10) (rest := [.int (zI _)]) (m_day (hI.2.1.xs b.m)) lo_X11_day (gtb_at 1875 (by decide +kernel) rfl) (gtb_at 1876 (by decide +kernel) rfl) (gtb_at 1877 (by decide +kernel) rfl) (gtb_at 11 (by decide +kernel) rfl) lc_X11_day (by decide) rfl rfl (by decide) (by omega) (by omega) rfl (Nat.le_of_ble_eq_true rfl) dL_law_1655 rfl (fun v9 h2 q2 => ?_)
    rw [er] at q2
    obtain ⟨rfl, c11, c, cM⟩ := q2
    show gK _ _ _ _ _ _ [.int (zI _), .int (zI _)] _
    refine gk_same (tgt := 1882) dL_law_1658 (by decide) rfl ?_
    exact gk_widen (by omega) (by omega) (K h2 (hI.z b b9 c c11 cM (Or.inr (Or.inl rfl))))
  · refine gk_aload_n (pc' := 1651) dL_law_1650 rfl rfl ?_
    refine gk_callV (C := RX10) (ci := 9) (rest := []) (x_day hI.1) lo_X10_day (gtb_at 1121 (by decide +kernel) rfl) (gtb_at 1122 (by decide +kernel) rfl) (gtb_at 1123 (by decide +kernel) rfl) (gtb_at 1 (by decide +kernel) rfl) lc_X10_day (by decide) rfl rfl (by decide) (by omega) (by omega) rfl (Nat.le_of_ble_eq_true rfl) dL_law_1651 rfl (fun v9 h1 q1 => ?_)
    obtain ⟨rfl, b9, b, bX⟩ := q1
    show gK _ _ _ _ _ _ [.int (zI _)] _
    refine gk_aload_n (pc' := 1655) dL_law_1654 rfl rfl ?_
    refine gk_callV (C := RX11) (ci := 10) (rest := [.int (zI _)]) (m_day (hI.2.1.xs b.m)) lo_X11_day (gtb_at 1875 (by decide +kernel) rfl) (gtb_at 1876 (by decide +kernel) rfl) (gtb_at 1877 (by decide +kernel) rfl) (gtb_at 11 (by decide +kernel) rfl) lc_X11_day (by decide) rfl rfl (by decide) (by omega) (by omega) rfl (Nat.le_of_ble_eq_true rfl) dL_law_1655 rfl (fun v9 h2 q2 => ?_)
    obtain ⟨rfl, c11, c, cM⟩ := q2
    show gK _ _ _ _ _ _ [.int (zI _), .int (zI _)] _
    refine gk_same (tgt := 1882) dL_law_1658 (by decide) rfl ?_
    exact gk_widen (by omega) (by omega) (K h2 (hI.a h3 b b9 bX c c11 cM (ok_rDay _ _)))
theorem lk_48 {L : Nat} {xs : Nat → Int32} {κ σ i : Nat} {h : gH} (hi : i + 6 ≤ L) (hL3 : L ≤ 3072) (hκ : κ + 2 ≤ 601024) (hσ : σ + 20 ≤ 7293034) (hI : LI2 h) (K : ∀ h', LI2 h' → gK L xs (κ + 2) (σ + 20) 1882 [some (.ref 2000), some (.ref 0), some (.ref 142), some (.ref 156), some (.int (zI (i : Int))), none, none] [] h') : gK L xs κ σ 1663 [some (.ref 2000), some (.ref 0), some (.ref 142), some (.ref 156), some (.int (zI (i : Int))), none, none] [] h := by
  obtain ⟨t, n, T, B, s, q, hI⟩ := hI
  by_cases h3 : T 3 = 0
  · obtain ⟨z4, z5, zu, zi⟩ := hI.zero h3
    have er : rPay T s (xZ xs (i + 1)) (xZ xs (i + 2)) = ((((-1), 1) : Int × Int), s) := by
      unfold rPay
      rw [if_neg (by omega)]
    refine gk_aload_n (pc' := 1664) dL_law_1663 rfl rfl ?_
    refine gk_aload_n (pc' := 1665) dL_law_1664 rfl rfl ?_
    refine gk_iload (pc' := 1667) dL_law_1665 rfl rfl ?_
    refine gk_iconst (pc' := 1668) dL_law_1667 rfl ?_
    refine gk_iadd (pc' := 1669) dL_law_1668 rfl ?_
    refine gk_sld (pc' := 1670) (j := i + 1) (by omega) (by omega) hL3 dL_law_1669 rfl ?_
    refine gk_aload_n (pc' := 1671) dL_law_1670 rfl rfl ?_
    refine gk_iload (pc' := 1673) dL_law_1671 rfl rfl ?_
    refine gk_iconst (pc' := 1674) dL_law_1673 rfl ?_
    refine gk_iadd (pc' := 1675) dL_law_1674 rfl ?_
    refine gk_sld (pc' := 1676) (j := i + 2) (by omega) (by omega) hL3 dL_law_1675 rfl ?_
    refine gk_callV (C := RX10) (ci := 9) (rest := []) (x_pay0 (a := xZ xs (i + 1)) (c := xZ xs (i + 2)) hI.1.1 z4 (xZ_in _ _)) lo_X10_pay (gtb_at 1141 (by decide +kernel) rfl) (gtb_at 1142 (by decide +kernel) rfl) (gtb_at 1143 (by decide +kernel) rfl) (gtb_at 1 (by decide +kernel) rfl) lc_X10_pay (by decide) rfl rfl (by decide) (by omega) (by omega) rfl (Nat.le_of_ble_eq_true rfl) dL_law_1676 rfl (fun v9 h1 q1 => ?_)
    obtain ⟨rfl, b, b9⟩ := q1
    show gK _ _ _ _ _ _ [.int (zI _)] _
    refine gk_aload_n (pc' := 1680) dL_law_1679 rfl rfl ?_
    refine gk_aload_n (pc' := 1681) dL_law_1680 rfl rfl ?_
    refine gk_iload (pc' := 1683) dL_law_1681 rfl rfl ?_
    refine gk_iconst (pc' := 1684) dL_law_1683 rfl ?_
    refine gk_iadd (pc' := 1685) dL_law_1684 rfl ?_
    refine gk_sld (pc' := 1686) (j := i + 1) (by omega) (by omega) hL3 dL_law_1685 rfl ?_
    refine gk_aload_n (pc' := 1687) dL_law_1686 rfl rfl ?_
    refine gk_iload (pc' := 1689) dL_law_1687 rfl rfl ?_
    refine gk_iconst (pc' := 1690) dL_law_1689 rfl ?_
    refine gk_iadd (pc' := 1691) dL_law_1690 rfl ?_
    refine gk_sld (pc' := 1692) (j := i + 2) (by omega) (by omega) hL3 dL_law_1691 rfl ?_
    refine gk_callV (C := RX11) (ci := 10) (rest := [.int (zI _)]) (m_pay (a := xZ xs (i + 1)) (c := xZ xs (i + 2)) (hI.2.1.xs b.m) (xZ_in _ _) (xZ_in _ _)) lo_X11_pay (gtb_at 1883 (by decide +kernel) rfl) (gtb_at 1884 (by decide +kernel) rfl) (gtb_at 1885 (by decide +kernel) rfl) (gtb_at 11 (by decide +kernel) rfl) lc_X11_pay (by decide) rfl rfl (by decide) (by omega) (by omega) rfl (Nat.le_of_ble_eq_true rfl) dL_law_1692 rfl (fun v9 h2 q2 => ?_)
    rw [er] at q2
    obtain ⟨rfl, c11, c, cM⟩ := q2
    show gK _ _ _ _ _ _ [.int (zI _), .int (zI _)] _
    refine gk_same (tgt := 1882) dL_law_1695 (by decide) rfl ?_
    exact gk_widen (by omega) (by omega) (K h2 (hI.z b b9 c c11 cM (Or.inr (Or.inl rfl))))
  · refine gk_aload_n (pc' := 1664) dL_law_1663 rfl rfl ?_
    refine gk_aload_n (pc' := 1665) dL_law_1664 rfl rfl ?_
    refine gk_iload (pc' := 1667) dL_law_1665 rfl rfl ?_
    refine gk_iconst (pc' := 1668) dL_law_1667 rfl ?_
    refine gk_iadd (pc' := 1669) dL_law_1668 rfl ?_
    refine gk_sld (pc' := 1670) (j := i + 1) (by omega) (by omega) hL3 dL_law_1669 rfl ?_
    refine gk_aload_n (pc' := 1671) dL_law_1670 rfl rfl ?_
    refine gk_iload (pc' := 1673) dL_law_1671 rfl rfl ?_
    refine gk_iconst (pc' := 1674) dL_law_1673 rfl ?_
    refine gk_iadd (pc' := 1675) dL_law_1674 rfl ?_
    refine gk_sld (pc' := 1676) (j := i + 2) (by omega) (by omega) hL3 dL_law_1675 rfl ?_
    refine gk_callV (C := RX10) (ci := 9) (rest := []) (x_pay (a := xZ xs (i + 1)) (c := xZ xs (i + 2)) hI.1 (xZ_in _ _) (xZ_in _ _)) lo_X10_pay (gtb_at 1141 (by decide +kernel) rfl) (gtb_at 1142 (by decide +kernel) rfl) (gtb_at 1143 (by decide +kernel) rfl) (gtb_at 1 (by decide +kernel) rfl) lc_X10_pay (by decide) rfl rfl (by decide) (by omega) (by omega) rfl (Nat.le_of_ble_eq_true rfl) dL_law_1676 rfl (fun v9 h1 q1 => ?_)
    obtain ⟨rfl, b9, b, bX⟩ := q1
    show gK _ _ _ _ _ _ [.int (zI _)] _
    refine gk_aload_n (pc' := 1680) dL_law_1679 rfl rfl ?_
    refine gk_aload_n (pc' := 1681) dL_law_1680 rfl rfl ?_
    refine gk_iload (pc' := 1683) dL_law_1681 rfl rfl ?_
    refine gk_iconst (pc' := 1684) dL_law_1683 rfl ?_
    refine gk_iadd (pc' := 1685) dL_law_1684 rfl ?_
    refine gk_sld (pc' := 1686) (j := i + 1) (by omega) (by omega) hL3 dL_law_1685 rfl ?_
    refine gk_aload_n (pc' := 1687) dL_law_1686 rfl rfl ?_
    refine gk_iload (pc' := 1689) dL_law_1687 rfl rfl ?_
    refine gk_iconst (pc' := 1690) dL_law_1689 rfl ?_
    refine gk_iadd (pc' := 1691) dL_law_1690 rfl ?_
    refine gk_sld (pc' := 1692) (j := i + 2) (by omega) (by omega) hL3 dL_law_1691 rfl ?_
    refine gk_callV (C := RX11) (ci := 10) (rest := [.int (zI _)]) (m_pay (a := xZ xs (i + 1)) (c := xZ xs (i + 2)) (hI.2.1.xs b.m) (xZ_in _ _) (xZ_in _ _)) lo_X11_pay (gtb_at 1883 (by decide +kernel) rfl) (gtb_at 1884 (by decide +kernel) rfl) (gtb_at 1885 (by decide +kernel) rfl) (gtb_at 11 (by decide +kernel) rfl) lc_X11_pay (by decide) rfl rfl (by decide) (by omega) (by omega) rfl (Nat.le_of_ble_eq_true rfl) dL_law_1692 rfl (fun v9 h2 q2 => ?_)
    obtain ⟨rfl, c11, c, cM⟩ := q2
    show gK _ _ _ _ _ _ [.int (zI _), .int (zI _)] _
    refine gk_same (tgt := 1882) dL_law_1695 (by decide) rfl ?_
    exact gk_widen (by omega) (by omega) (K h2 (hI.a h3 b b9 bX c c11 cM (ok_rPay _ _ _ _)))
theorem lk_49 {L : Nat} {xs : Nat → Int32} {κ σ i : Nat} {h : gH} (hi : i + 6 ≤ L) (hL3 : L ≤ 3072) (hκ : κ + 2 ≤ 601024) (hσ : σ + 20 ≤ 7293034) (hI : LI2 h) (K : ∀ h', LI2 h' → gK L xs (κ + 2) (σ + 20) 1882 [some (.ref 2000), some (.ref 0), some (.ref 142), some (.ref 156), some (.int (zI (i : Int))), none, none] [] h') : gK L xs κ σ 1700 [some (.ref 2000), some (.ref 0), some (.ref 142), some (.ref 156), some (.int (zI (i : Int))), none, none] [] h := by
  obtain ⟨t, n, T, B, s, q, hI⟩ := hI
  by_cases h3 : T 3 = 0
  · obtain ⟨z4, z5, zu, zi⟩ := hI.zero h3
    have er : rMeet T s (xZ xs (i + 1)) (xZ xs (i + 2)) = ((((-1), 1) : Int × Int), s) := by
      unfold rMeet
      rw [if_neg (by omega)]
    refine gk_aload_n (pc' := 1701) dL_law_1700 rfl rfl ?_
    refine gk_aload_n (pc' := 1702) dL_law_1701 rfl rfl ?_
    refine gk_iload (pc' := 1704) dL_law_1702 rfl rfl ?_
    refine gk_iconst (pc' := 1705) dL_law_1704 rfl ?_
    refine gk_iadd (pc' := 1706) dL_law_1705 rfl ?_
    refine gk_sld (pc' := 1707) (j := i + 1) (by omega) (by omega) hL3 dL_law_1706 rfl ?_
    refine gk_aload_n (pc' := 1708) dL_law_1707 rfl rfl ?_
    refine gk_iload (pc' := 1710) dL_law_1708 rfl rfl ?_
    refine gk_iconst (pc' := 1711) dL_law_1710 rfl ?_
    refine gk_iadd (pc' := 1712) dL_law_1711 rfl ?_
    refine gk_sld (pc' := 1713) (j := i + 2) (by omega) (by omega) hL3 dL_law_1712 rfl ?_
    refine gk_callV (C := RX10) (ci := 9) (rest := []) (x_meet0 (a := xZ xs (i + 1)) (c := xZ xs (i + 2)) hI.1.1 z4 (xZ_in _ _) (xZ_in _ _)) lo_X10_meet (gtb_at 1149 (by decide +kernel) rfl) (gtb_at 1150 (by decide +kernel) rfl) (gtb_at 1151 (by decide +kernel) rfl) (gtb_at 1 (by decide +kernel) rfl) lc_X10_meet (by decide) rfl rfl (by decide) (by omega) (by omega) rfl (Nat.le_of_ble_eq_true rfl) dL_law_1713 rfl (fun v9 h1 q1 => ?_)
    obtain ⟨rfl, b, b9⟩ := q1
    show gK _ _ _ _ _ _ [.int (zI _)] _
    refine gk_aload_n (pc' := 1717) dL_law_1716 rfl rfl ?_
    refine gk_aload_n (pc' := 1718) dL_law_1717 rfl rfl ?_
    refine gk_iload (pc' := 1720) dL_law_1718 rfl rfl ?_
    refine gk_iconst (pc' := 1721) dL_law_1720 rfl ?_
    refine gk_iadd (pc' := 1722) dL_law_1721 rfl ?_
    refine gk_sld (pc' := 1723) (j := i + 1) (by omega) (by omega) hL3 dL_law_1722 rfl ?_
    refine gk_aload_n (pc' := 1724) dL_law_1723 rfl rfl ?_
    refine gk_iload (pc' := 1726) dL_law_1724 rfl rfl ?_
    refine gk_iconst (pc' := 1727) dL_law_1726 rfl ?_
    refine gk_iadd (pc' := 1728) dL_law_1727 rfl ?_
    refine gk_sld (pc' := 1729) (j := i + 2) (by omega) (by omega) hL3 dL_law_1728 rfl ?_
    refine gk_callV (C := RX11) (ci := 10) (rest := [.int (zI _)]) (m_meet (a := xZ xs (i + 1)) (c := xZ xs (i + 2)) (hI.2.1.xs b.m) (xZ_in _ _) (xZ_in _ _)) lo_X11_meet (gtb_at 1887 (by decide +kernel) rfl) (gtb_at 1888 (by decide +kernel) rfl) (gtb_at 1889 (by decide +kernel) rfl) (gtb_at 11 (by decide +kernel) rfl) lc_X11_meet (by decide) rfl rfl (by decide) (by omega) (by omega) rfl (Nat.le_of_ble_eq_true rfl) dL_law_1729 rfl (fun v9 h2 q2 => ?_)
    rw [er] at q2
    obtain ⟨rfl, c11, c, cM⟩ := q2
    show gK _ _ _ _ _ _ [.int (zI _), .int (zI _)] _
    refine gk_same (tgt := 1882) dL_law_1732 (by decide) rfl ?_
    exact gk_widen (by omega) (by omega) (K h2 (hI.z b b9 c c11 cM (Or.inr (Or.inl rfl))))
  · refine gk_aload_n (pc' := 1701) dL_law_1700 rfl rfl ?_
    refine gk_aload_n (pc' := 1702) dL_law_1701 rfl rfl ?_
    refine gk_iload (pc' := 1704) dL_law_1702 rfl rfl ?_
    refine gk_iconst (pc' := 1705) dL_law_1704 rfl ?_
    refine gk_iadd (pc' := 1706) dL_law_1705 rfl ?_
    refine gk_sld (pc' := 1707) (j := i + 1) (by omega) (by omega) hL3 dL_law_1706 rfl ?_
    refine gk_aload_n (pc' := 1708) dL_law_1707 rfl rfl ?_
    refine gk_iload (pc' := 1710) dL_law_1708 rfl rfl ?_
    refine gk_iconst (pc' := 1711) dL_law_1710 rfl ?_
    refine gk_iadd (pc' := 1712) dL_law_1711 rfl ?_
    refine gk_sld (pc' := 1713) (j := i + 2) (by omega) (by omega) hL3 dL_law_1712 rfl ?_
    refine gk_callV (C := RX10) (ci := 9) (rest := []) (x_meet (a := xZ xs (i + 1)) (c := xZ xs (i + 2)) hI.1 (xZ_in _ _) (xZ_in _ _)) lo_X10_meet (gtb_at 1149 (by decide +kernel) rfl) (gtb_at 1150 (by decide +kernel) rfl) (gtb_at 1151 (by decide +kernel) rfl) (gtb_at 1 (by decide +kernel) rfl) lc_X10_meet (by decide) rfl rfl (by decide) (by omega) (by omega) rfl (Nat.le_of_ble_eq_true rfl) dL_law_1713 rfl (fun v9 h1 q1 => ?_)
    obtain ⟨rfl, b9, b, bX⟩ := q1
    show gK _ _ _ _ _ _ [.int (zI _)] _
    refine gk_aload_n (pc' := 1717) dL_law_1716 rfl rfl ?_
    refine gk_aload_n (pc' := 1718) dL_law_1717 rfl rfl ?_
    refine gk_iload (pc' := 1720) dL_law_1718 rfl rfl ?_
    refine gk_iconst (pc' := 1721) dL_law_1720 rfl ?_
    refine gk_iadd (pc' := 1722) dL_law_1721 rfl ?_
    refine gk_sld (pc' := 1723) (j := i + 1) (by omega) (by omega) hL3 dL_law_1722 rfl ?_
    refine gk_aload_n (pc' := 1724) dL_law_1723 rfl rfl ?_
    refine gk_iload (pc' := 1726) dL_law_1724 rfl rfl ?_
    refine gk_iconst (pc' := 1727) dL_law_1726 rfl ?_
    refine gk_iadd (pc' := 1728) dL_law_1727 rfl ?_
    refine gk_sld (pc' := 1729) (j := i + 2) (by omega) (by omega) hL3 dL_law_1728 rfl ?_
    refine gk_callV (C := RX11) (ci := 10) (rest := [.int (zI _)]) (m_meet (a := xZ xs (i + 1)) (c := xZ xs (i + 2)) (hI.2.1.xs b.m) (xZ_in _ _) (xZ_in _ _)) lo_X11_meet (gtb_at 1887 (by decide +kernel) rfl) (gtb_at 1888 (by decide +kernel) rfl) (gtb_at 1889 (by decide +kernel) rfl) (gtb_at 11 (by decide +kernel) rfl) lc_X11_meet (by decide) rfl rfl (by decide) (by omega) (by omega) rfl (Nat.le_of_ble_eq_true rfl) dL_law_1729 rfl (fun v9 h2 q2 => ?_)
    obtain ⟨rfl, c11, c, cM⟩ := q2
    show gK _ _ _ _ _ _ [.int (zI _), .int (zI _)] _
    refine gk_same (tgt := 1882) dL_law_1732 (by decide) rfl ?_
    exact gk_widen (by omega) (by omega) (K h2 (hI.a h3 b b9 bX c c11 cM (ok_rMeet _ _ _ _)))
theorem lk_50 {L : Nat} {xs : Nat → Int32} {κ σ i : Nat} {h : gH} (hi : i + 6 ≤ L) (hL3 : L ≤ 3072) (hκ : κ + 2 ≤ 601024) (hσ : σ + 20 ≤ 7293034) (hI : LI2 h) (K : ∀ h', LI2 h' → gK L xs (κ + 2) (σ + 20) 1882 [some (.ref 2000), some (.ref 0), some (.ref 142), some (.ref 156), some (.int (zI (i : Int))), none, none] [] h') : gK L xs κ σ 1737 [some (.ref 2000), some (.ref 0), some (.ref 142), some (.ref 156), some (.int (zI (i : Int))), none, none] [] h := by
  obtain ⟨t, n, T, B, s, q, hI⟩ := hI
  by_cases h3 : T 3 = 0
  · obtain ⟨z4, z5, zu, zi⟩ := hI.zero h3
    have er : rUndo s = (((0, 6) : Int × Int), s) := by
      unfold rUndo
      rw [if_pos zu]
    refine gk_aload_n (pc' := 1738) dL_law_1737 rfl rfl ?_
    refine gk_callV (C := RX10) (ci := 9) (rest := []) (x_undo0 hI.1 zu) lo_X10_undo (gtb_at 1163 (by decide +kernel) rfl) (gtb_at 1164 (by decide +kernel) rfl) (gtb_at 1165 (by decide +kernel) rfl) (gtb_at 1 (by decide +kernel) rfl) lc_X10_undo (by decide) rfl rfl (by decide) (by omega) (by omega) rfl (Nat.le_of_ble_eq_true rfl) dL_law_1738 rfl (fun v9 h1 q1 => ?_)
    obtain ⟨rfl, b, b9⟩ := q1
    show gK _ _ _ _ _ _ [.int (zI _)] _
    refine gk_aload_n (pc' := 1742) dL_law_1741 rfl rfl ?_
    refine gk_callV (C := RX11) (ci := 10) (rest := [.int (zI _)]) (m_undo (hI.2.1.xs b.m)) lo_X11_undo (gtb_at 1891 (by decide +kernel) rfl) (gtb_at 1892 (by decide +kernel) rfl) (gtb_at 1893 (by decide +kernel) rfl) (gtb_at 11 (by decide +kernel) rfl) lc_X11_undo (by decide) rfl rfl (by decide) (by omega) (by omega) rfl (Nat.le_of_ble_eq_true rfl) dL_law_1742 rfl (fun v9 h2 q2 => ?_)
    rw [er] at q2
    obtain ⟨rfl, c11, c, cM⟩ := q2
    show gK _ _ _ _ _ _ [.int (zI _), .int (zI _)] _
    refine gk_same (tgt := 1882) dL_law_1745 (by decide) rfl ?_
    exact gk_widen (by omega) (by omega) (K h2 (hI.z b b9 c c11 cM (Or.inr (Or.inr (Or.inr (Or.inr (Or.inr rfl)))))))
  · refine gk_aload_n (pc' := 1738) dL_law_1737 rfl rfl ?_
    refine gk_callV (C := RX10) (ci := 9) (rest := []) (x_undo hI.1) lo_X10_undo (gtb_at 1163 (by decide +kernel) rfl) (gtb_at 1164 (by decide +kernel) rfl) (gtb_at 1165 (by decide +kernel) rfl) (gtb_at 1 (by decide +kernel) rfl) lc_X10_undo (by decide) rfl rfl (by decide) (by omega) (by omega) rfl (Nat.le_of_ble_eq_true rfl) dL_law_1738 rfl (fun v9 h1 q1 => ?_)
    obtain ⟨rfl, b9, b, bX⟩ := q1
    show gK _ _ _ _ _ _ [.int (zI _)] _
    refine gk_aload_n (pc' := 1742) dL_law_1741 rfl rfl ?_
    refine gk_callV (C := RX11) (ci := 10) (rest := [.int (zI _)]) (m_undo (hI.2.1.xs b.m)) lo_X11_undo (gtb_at 1891 (by decide +kernel) rfl) (gtb_at 1892 (by decide +kernel) rfl) (gtb_at 1893 (by decide +kernel) rfl) (gtb_at 11 (by decide +kernel) rfl) lc_X11_undo (by decide) rfl rfl (by decide) (by omega) (by omega) rfl (Nat.le_of_ble_eq_true rfl) dL_law_1742 rfl (fun v9 h2 q2 => ?_)
    obtain ⟨rfl, c11, c, cM⟩ := q2
    show gK _ _ _ _ _ _ [.int (zI _), .int (zI _)] _
    refine gk_same (tgt := 1882) dL_law_1745 (by decide) rfl ?_
    exact gk_widen (by omega) (by omega) (K h2 (hI.a h3 b b9 bX c c11 cM (ok_rUndo _)))
theorem lk_51 {L : Nat} {xs : Nat → Int32} {κ σ i : Nat} {h : gH} (hi : i + 6 ≤ L) (hL3 : L ≤ 3072) (hκ : κ + 2 ≤ 601024) (hσ : σ + 20 ≤ 7293034) (hI : LI2 h) (K : ∀ h', LI2 h' → gK L xs (κ + 2) (σ + 20) 1882 [some (.ref 2000), some (.ref 0), some (.ref 142), some (.ref 156), some (.int (zI (i : Int))), none, none] [] h') : gK L xs κ σ 1750 [some (.ref 2000), some (.ref 0), some (.ref 142), some (.ref 156), some (.int (zI (i : Int))), none, none] [] h := by
  obtain ⟨t, n, T, B, s, q, hI⟩ := hI
  by_cases h3 : T 3 = 0
  · obtain ⟨z4, z5, zu, zi⟩ := hI.zero h3
    have er : rImage T s = ((((-1), 1) : Int × Int), s) := by
      unfold rImage
      rw [if_pos h3]
    refine gk_aload_n (pc' := 1751) dL_law_1750 rfl rfl ?_
    refine gk_callV (C := RX10) (ci := 9) (rest := []) (x_image0 hI.1.1 h3) lo_X10_image (gtb_at 1171 (by decide +kernel) rfl) (gtb_at 1172 (by decide +kernel) rfl) (gtb_at 1173 (by decide +kernel) rfl) (gtb_at 1 (by decide +kernel) rfl) lc_X10_image (by decide) rfl rfl (by decide) (by omega) (by omega) rfl (Nat.le_of_ble_eq_true rfl) dL_law_1751 rfl (fun v9 h1 q1 => ?_)
    obtain ⟨rfl, b, b9⟩ := q1
    show gK _ _ _ _ _ _ [.int (zI _)] _
    refine gk_aload_n (pc' := 1755) dL_law_1754 rfl rfl ?_
    refine gk_callV (C := RX11) (ci := 10) (rest := [.int (zI _)]) (m_image (hI.2.1.xs b.m)) lo_X11_image (gtb_at 1899 (by decide +kernel) rfl) (gtb_at 1900 (by decide +kernel) rfl) (gtb_at 1901 (by decide +kernel) rfl) (gtb_at 11 (by decide +kernel) rfl) lc_X11_image (by decide) rfl rfl (by decide) (by omega) (by omega) rfl (Nat.le_of_ble_eq_true rfl) dL_law_1755 rfl (fun v9 h2 q2 => ?_)
    rw [er] at q2
    obtain ⟨rfl, c11, c, cM⟩ := q2
    show gK _ _ _ _ _ _ [.int (zI _), .int (zI _)] _
    refine gk_same (tgt := 1882) dL_law_1758 (by decide) rfl ?_
    exact gk_widen (by omega) (by omega) (K h2 (hI.z b b9 c c11 cM (Or.inr (Or.inl rfl))))
  · refine gk_aload_n (pc' := 1751) dL_law_1750 rfl rfl ?_
    refine gk_callV (C := RX10) (ci := 9) (rest := []) (x_image hI.1) lo_X10_image (gtb_at 1171 (by decide +kernel) rfl) (gtb_at 1172 (by decide +kernel) rfl) (gtb_at 1173 (by decide +kernel) rfl) (gtb_at 1 (by decide +kernel) rfl) lc_X10_image (by decide) rfl rfl (by decide) (by omega) (by omega) rfl (Nat.le_of_ble_eq_true rfl) dL_law_1751 rfl (fun v9 h1 q1 => ?_)
    obtain ⟨rfl, b9, b, bX⟩ := q1
    show gK _ _ _ _ _ _ [.int (zI _)] _
    refine gk_aload_n (pc' := 1755) dL_law_1754 rfl rfl ?_
    refine gk_callV (C := RX11) (ci := 10) (rest := [.int (zI _)]) (m_image (hI.2.1.xs b.m)) lo_X11_image (gtb_at 1899 (by decide +kernel) rfl) (gtb_at 1900 (by decide +kernel) rfl) (gtb_at 1901 (by decide +kernel) rfl) (gtb_at 11 (by decide +kernel) rfl) lc_X11_image (by decide) rfl rfl (by decide) (by omega) (by omega) rfl (Nat.le_of_ble_eq_true rfl) dL_law_1755 rfl (fun v9 h2 q2 => ?_)
    obtain ⟨rfl, c11, c, cM⟩ := q2
    show gK _ _ _ _ _ _ [.int (zI _), .int (zI _)] _
    refine gk_same (tgt := 1882) dL_law_1758 (by decide) rfl ?_
    exact gk_widen (by omega) (by omega) (K h2 (hI.a h3 b b9 bX c c11 cM (ok_rImage _ _)))
theorem lk_52 {L : Nat} {xs : Nat → Int32} {κ σ i : Nat} {h : gH} (hi : i + 6 ≤ L) (hL3 : L ≤ 3072) (hκ : κ + 2 ≤ 601024) (hσ : σ + 20 ≤ 7293034) (hI : LI2 h) (K : ∀ h', LI2 h' → gK L xs (κ + 2) (σ + 20) 1882 [some (.ref 2000), some (.ref 0), some (.ref 142), some (.ref 156), some (.int (zI (i : Int))), none, none] [] h') : gK L xs κ σ 1763 [some (.ref 2000), some (.ref 0), some (.ref 142), some (.ref 156), some (.int (zI (i : Int))), none, none] [] h := by
  obtain ⟨t, n, T, B, s, q, hI⟩ := hI
  by_cases h3 : T 3 = 0
  · obtain ⟨z4, z5, zu, zi⟩ := hI.zero h3
    have er : rBack s (xZ xs (i + 1)) = (((0, 1) : Int × Int), s) := by
      unfold rBack
      rw [if_neg (by omega)]
    refine gk_aload_n (pc' := 1764) dL_law_1763 rfl rfl ?_
    refine gk_aload_n (pc' := 1765) dL_law_1764 rfl rfl ?_
    refine gk_iload (pc' := 1767) dL_law_1765 rfl rfl ?_
    refine gk_iconst (pc' := 1768) dL_law_1767 rfl ?_
    refine gk_iadd (pc' := 1769) dL_law_1768 rfl ?_
    refine gk_sld (pc' := 1770) (j := i + 1) (by omega) (by omega) hL3 dL_law_1769 rfl ?_
    refine gk_callV (C := RX10) (ci := 9) (rest := []) (x_back0 (a := xZ xs (i + 1)) hI.1 (xZ_in _ _) zi) lo_X10_back (gtb_at 1179 (by decide +kernel) rfl) (gtb_at 1180 (by decide +kernel) rfl) (gtb_at 1181 (by decide +kernel) rfl) (gtb_at 1 (by decide +kernel) rfl) lc_X10_back (by decide) rfl rfl (by decide) (by omega) (by omega) rfl (Nat.le_of_ble_eq_true rfl) dL_law_1770 rfl (fun v9 h1 q1 => ?_)
    obtain ⟨rfl, b, b9⟩ := q1
    show gK _ _ _ _ _ _ [.int (zI _)] _
    refine gk_aload_n (pc' := 1774) dL_law_1773 rfl rfl ?_
    refine gk_aload_n (pc' := 1775) dL_law_1774 rfl rfl ?_
    refine gk_iload (pc' := 1777) dL_law_1775 rfl rfl ?_
    refine gk_iconst (pc' := 1778) dL_law_1777 rfl ?_
    refine gk_iadd (pc' := 1779) dL_law_1778 rfl ?_
    refine gk_sld (pc' := 1780) (j := i + 1) (by omega) (by omega) hL3 dL_law_1779 rfl ?_
    refine gk_callV (C := RX11) (ci := 10) (rest := [.int (zI _)]) (m_back (a := xZ xs (i + 1)) (hI.2.1.xs b.m) (xZ_in _ _)) lo_X11_back (gtb_at 1903 (by decide +kernel) rfl) (gtb_at 1904 (by decide +kernel) rfl) (gtb_at 1905 (by decide +kernel) rfl) (gtb_at 11 (by decide +kernel) rfl) lc_X11_back (by decide) rfl rfl (by decide) (by omega) (by omega) rfl (Nat.le_of_ble_eq_true rfl) dL_law_1780 rfl (fun v9 h2 q2 => ?_)
    rw [er] at q2
    obtain ⟨rfl, c11, c, cM⟩ := q2
    show gK _ _ _ _ _ _ [.int (zI _), .int (zI _)] _
    refine gk_same (tgt := 1882) dL_law_1783 (by decide) rfl ?_
    exact gk_widen (by omega) (by omega) (K h2 (hI.z b b9 c c11 cM (Or.inr (Or.inl rfl))))
  · refine gk_aload_n (pc' := 1764) dL_law_1763 rfl rfl ?_
    refine gk_aload_n (pc' := 1765) dL_law_1764 rfl rfl ?_
    refine gk_iload (pc' := 1767) dL_law_1765 rfl rfl ?_
    refine gk_iconst (pc' := 1768) dL_law_1767 rfl ?_
    refine gk_iadd (pc' := 1769) dL_law_1768 rfl ?_
    refine gk_sld (pc' := 1770) (j := i + 1) (by omega) (by omega) hL3 dL_law_1769 rfl ?_
    refine gk_callV (C := RX10) (ci := 9) (rest := []) (x_back (a := xZ xs (i + 1)) hI.1 (xZ_in _ _)) lo_X10_back (gtb_at 1179 (by decide +kernel) rfl) (gtb_at 1180 (by decide +kernel) rfl) (gtb_at 1181 (by decide +kernel) rfl) (gtb_at 1 (by decide +kernel) rfl) lc_X10_back (by decide) rfl rfl (by decide) (by omega) (by omega) rfl (Nat.le_of_ble_eq_true rfl) dL_law_1770 rfl (fun v9 h1 q1 => ?_)
    obtain ⟨rfl, b9, b, bX⟩ := q1
    show gK _ _ _ _ _ _ [.int (zI _)] _
    refine gk_aload_n (pc' := 1774) dL_law_1773 rfl rfl ?_
    refine gk_aload_n (pc' := 1775) dL_law_1774 rfl rfl ?_
    refine gk_iload (pc' := 1777) dL_law_1775 rfl rfl ?_
    refine gk_iconst (pc' := 1778) dL_law_1777 rfl ?_
    refine gk_iadd (pc' := 1779) dL_law_1778 rfl ?_
    refine gk_sld (pc' := 1780) (j := i + 1) (by omega) (by omega) hL3 dL_law_1779 rfl ?_
    refine gk_callV (C := RX11) (ci := 10) (rest := [.int (zI _)]) (m_back (a := xZ xs (i + 1)) (hI.2.1.xs b.m) (xZ_in _ _)) lo_X11_back (gtb_at 1903 (by decide +kernel) rfl) (gtb_at 1904 (by decide +kernel) rfl) (gtb_at 1905 (by decide +kernel) rfl) (gtb_at 11 (by decide +kernel) rfl) lc_X11_back (by decide) rfl rfl (by decide) (by omega) (by omega) rfl (Nat.le_of_ble_eq_true rfl) dL_law_1780 rfl (fun v9 h2 q2 => ?_)
    obtain ⟨rfl, c11, c, cM⟩ := q2
    show gK _ _ _ _ _ _ [.int (zI _), .int (zI _)] _
    refine gk_same (tgt := 1882) dL_law_1783 (by decide) rfl ?_
    exact gk_widen (by omega) (by omega) (K h2 (hI.a h3 b b9 bX c c11 cM (ok_rBack _ _)))
