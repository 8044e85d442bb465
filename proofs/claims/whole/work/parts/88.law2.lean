/-! the law: cases 14 to 23 -/
theorem lo_X10_worstDay : gOkM yX10_worstDay 0 := ⟨by decide +kernel, by decide +kernel, by decide +kernel⟩
theorem lc_X10_worstDay : Cond.code yX10_worstDay cX10_worstDay 1 (some .int) ∈ gtb := (gtb_at 772 (by decide +kernel) rfl)
theorem lo_X11_worstDay : gOkM yX11_worstDay 0 := ⟨by decide +kernel, by decide +kernel, by decide +kernel⟩
theorem lc_X11_worstDay : Cond.code yX11_worstDay cX11_worstDay 6 (some .int) ∈ gtb := (gtb_at 1658 (by decide +kernel) rfl)
theorem lo_X10_whitest : gOkM yX10_whitest 1 := ⟨by decide +kernel, by decide +kernel, by decide +kernel⟩
theorem lc_X10_whitest : Cond.code yX10_whitest cX10_whitest 2 (some .int) ∈ gtb := (gtb_at 780 (by decide +kernel) rfl)
theorem lo_X11_whitest : gOkM yX11_whitest 1 := ⟨by decide +kernel, by decide +kernel, by decide +kernel⟩
theorem lc_X11_whitest : Cond.code yX11_whitest cX11_whitest 5 (some .int) ∈ gtb := (gtb_at 1662 (by decide +kernel) rfl)
theorem lo_X10_allSit : gOkM yX10_allSit 0 := ⟨by decide +kernel, by decide +kernel, by decide +kernel⟩
theorem lc_X10_allSit : Cond.code yX10_allSit cX10_allSit 1 (some .int) ∈ gtb := (gtb_at 789 (by decide +kernel) rfl)
theorem lo_X11_allSit : gOkM yX11_allSit 0 := ⟨by decide +kernel, by decide +kernel, by decide +kernel⟩
theorem lc_X11_allSit : Cond.code yX11_allSit cX11_allSit 4 (some .int) ∈ gtb := (gtb_at 1666 (by decide +kernel) rfl)
theorem lo_X10_mayMeet : gOkM yX10_mayMeet 1 := ⟨by decide +kernel, by decide +kernel, by decide +kernel⟩
theorem lc_X10_mayMeet : Cond.code yX10_mayMeet cX10_mayMeet 2 (some .int) ∈ gtb := (gtb_at 798 (by decide +kernel) rfl)
theorem lo_X11_mayMeet : gOkM yX11_mayMeet 1 := ⟨by decide +kernel, by decide +kernel, by decide +kernel⟩
theorem lc_X11_mayMeet : Cond.code yX11_mayMeet cX11_mayMeet 4 (some .int) ∈ gtb := (gtb_at 1670 (by decide +kernel) rfl)
theorem lo_X10_meeting : gOkM yX10_meeting 2 := ⟨by decide +kernel, by decide +kernel, by decide +kernel⟩
theorem lc_X10_meeting : Cond.code yX10_meeting cX10_meeting 3 (some .int) ∈ gtb := (gtb_at 810 (by decide +kernel) rfl)
theorem lo_X11_meeting : gOkM yX11_meeting 2 := ⟨by decide +kernel, by decide +kernel, by decide +kernel⟩
theorem lc_X11_meeting : Cond.code yX11_meeting cX11_meeting 3 (some .int) ∈ gtb := (gtb_at 1678 (by decide +kernel) rfl)
theorem lo_X10_owes : gOkM yX10_owes 1 := ⟨by decide +kernel, by decide +kernel, by decide +kernel⟩
theorem lc_X10_owes : Cond.code yX10_owes cX10_owes 2 (some .int) ∈ gtb := (gtb_at 825 (by decide +kernel) rfl)
theorem lo_X11_owes : gOkM yX11_owes 1 := ⟨by decide +kernel, by decide +kernel, by decide +kernel⟩
theorem lc_X11_owes : Cond.code yX11_owes cX11_owes 2 (some .int) ∈ gtb := (gtb_at 1690 (by decide +kernel) rfl)
theorem lo_X10_poor : gOkM yX10_poor 0 := ⟨by decide +kernel, by decide +kernel, by decide +kernel⟩
theorem lc_X10_poor : Cond.code yX10_poor cX10_poor 1 (some .int) ∈ gtb := (gtb_at 833 (by decide +kernel) rfl)
theorem lo_X11_poor : gOkM yX11_poor 0 := ⟨by decide +kernel, by decide +kernel, by decide +kernel⟩
theorem lc_X11_poor : Cond.code yX11_poor cX11_poor 3 (some .int) ∈ gtb := (gtb_at 1698 (by decide +kernel) rfl)
theorem lo_X10_peace : gOkM yX10_peace 0 := ⟨by decide +kernel, by decide +kernel, by decide +kernel⟩
theorem lc_X10_peace : Cond.code yX10_peace cX10_peace 1 (some .int) ∈ gtb := (gtb_at 842 (by decide +kernel) rfl)
theorem lo_X11_peace : gOkM yX11_peace 0 := ⟨by decide +kernel, by decide +kernel, by decide +kernel⟩
theorem lc_X11_peace : Cond.code yX11_peace cX11_peace 1 (some .int) ∈ gtb := (gtb_at 1702 (by decide +kernel) rfl)
theorem lo_X10_mate : gOkM yX10_mate 1 := ⟨by decide +kernel, by decide +kernel, by decide +kernel⟩
theorem lc_X10_mate : Cond.code yX10_mate cX10_mate 2 (some .int) ∈ gtb := (gtb_at 865 (by decide +kernel) rfl)
theorem lo_X11_mate : gOkM yX11_mate 1 := ⟨by decide +kernel, by decide +kernel, by decide +kernel⟩
theorem lc_X11_mate : Cond.code yX11_mate cX11_mate 2 (some .int) ∈ gtb := (gtb_at 1715 (by decide +kernel) rfl)
theorem lo_X10_peaces : gOkM yX10_peaces 0 := ⟨by decide +kernel, by decide +kernel, by decide +kernel⟩
theorem lc_X10_peaces : Cond.code yX10_peaces cX10_peaces 1 (some .int) ∈ gtb := (gtb_at 878 (by decide +kernel) rfl)
theorem lo_X11_peaces : gOkM yX11_peaces 0 := ⟨by decide +kernel, by decide +kernel, by decide +kernel⟩
theorem lc_X11_peaces : Cond.code yX11_peaces cX11_peaces 1 (some .int) ∈ gtb := (gtb_at 1719 (by decide +kernel) rfl)
theorem lk_14 {L : Nat} {xs : Nat → Int32} {κ σ i : Nat} {h : gH} (hi : i + 6 ≤ L) (hL3 : L ≤ 3072) (hκ : κ + 2 ≤ 601024) (hσ : σ + 20 ≤ 7293034) (hI : LI2 h) (K : ∀ h', LI2 h' → gK L xs (κ + 2) (σ + 20) 1882 [some (.ref 2000), some (.ref 0), some (.ref 142), some (.ref 156), some (.int (zI (i : Int))), none, none] [] h') : gK L xs κ σ 690 [some (.ref 2000), some (.ref 0), some (.ref 142), some (.ref 156), some (.int (zI (i : Int))), none, none] [] h := by
  obtain ⟨t, n, T, B, s, q, hI⟩ := hI
  refine gk_aload_n (pc' := 691) dL_law_690 rfl rfl ?_
  refine gk_callV (C := RX10) (ci := 9) (rest := []) (x_worstDay (S := s.1) hI.1.1) lo_X10_worstDay (gtb_at 769 (by decide +kernel) rfl) (gtb_at 770 (by decide +kernel) rfl) (gtb_at 771 (by decide +kernel) rfl) (gtb_at 1 (by decide +kernel) rfl) lc_X10_worstDay (by decide) rfl rfl (by decide) (by omega) (by omega) rfl (Nat.le_of_ble_eq_true rfl) dL_law_691 rfl (fun v9 h1 q1 => ?_)
  obtain ⟨rfl, b, b9⟩ := q1
  show gK _ _ _ _ _ _ [.int (zI _)] _
  refine gk_aload_n (pc' := 695) dL_law_694 rfl rfl ?_
  refine gk_callV (C := RX11) (ci := 10) (rest := [.int (zI _)]) (m_worstDay (S := s.1) (hI.2.1.1.xs b.m)) lo_X11_worstDay (gtb_at 1655 (by decide +kernel) rfl) (gtb_at 1656 (by decide +kernel) rfl) (gtb_at 1657 (by decide +kernel) rfl) (gtb_at 11 (by decide +kernel) rfl) lc_X11_worstDay (by decide) rfl rfl (by decide) (by omega) (by omega) rfl (Nat.le_of_ble_eq_true rfl) dL_law_695 rfl (fun v9 h2 q2 => ?_)
  obtain ⟨rfl, c, c11⟩ := q2
  show gK _ _ _ _ _ _ [.int (zI _), .int (zI _)] _
  refine gk_same (tgt := 1882) dL_law_698 (by decide) rfl ?_
  exact gk_widen (by omega) (by omega) (K h2 (hI.q b b9 c c11 (ok_aTown _ _)))
theorem lk_15 {L : Nat} {xs : Nat → Int32} {κ σ i : Nat} {h : gH} (hi : i + 6 ≤ L) (hL3 : L ≤ 3072) (hκ : κ + 2 ≤ 601024) (hσ : σ + 20 ≤ 7293034) (hI : LI2 h) (K : ∀ h', LI2 h' → gK L xs (κ + 2) (σ + 20) 1882 [some (.ref 2000), some (.ref 0), some (.ref 142), some (.ref 156), some (.int (zI (i : Int))), none, none] [] h') : gK L xs κ σ 703 [some (.ref 2000), some (.ref 0), some (.ref 142), some (.ref 156), some (.int (zI (i : Int))), none, none] [] h := by
  obtain ⟨t, n, T, B, s, q, hI⟩ := hI
  refine gk_aload_n (pc' := 704) dL_law_703 rfl rfl ?_
  refine gk_aload_n (pc' := 705) dL_law_704 rfl rfl ?_
  refine gk_iload (pc' := 707) dL_law_705 rfl rfl ?_
  refine gk_iconst (pc' := 708) dL_law_707 rfl ?_
  refine gk_iadd (pc' := 709) dL_law_708 rfl ?_
  refine gk_sld (pc' := 710) (j := i + 1) (by omega) (by omega) hL3 dL_law_709 rfl ?_
  refine gk_callV (C := RX10) (ci := 9) (rest := []) (x_whitest (S := s.1) (b := xZ xs (i + 1)) hI.1.1 (xZ_in _ _)) lo_X10_whitest (gtb_at 777 (by decide +kernel) rfl) (gtb_at 778 (by decide +kernel) rfl) (gtb_at 779 (by decide +kernel) rfl) (gtb_at 1 (by decide +kernel) rfl) lc_X10_whitest (by decide) rfl rfl (by decide) (by omega) (by omega) rfl (Nat.le_of_ble_eq_true rfl) dL_law_710 rfl (fun v9 h1 q1 => ?_)
  obtain ⟨rfl, b, b9⟩ := q1
  show gK _ _ _ _ _ _ [.int (zI _)] _
  refine gk_aload_n (pc' := 714) dL_law_713 rfl rfl ?_
  refine gk_aload_n (pc' := 715) dL_law_714 rfl rfl ?_
  refine gk_iload (pc' := 717) dL_law_715 rfl rfl ?_
  refine gk_iconst (pc' := 718) dL_law_717 rfl ?_
  refine gk_iadd (pc' := 719) dL_law_718 rfl ?_
  refine gk_sld (pc' := 720) (j := i + 1) (by omega) (by omega) hL3 dL_law_719 rfl ?_
  refine gk_callV (C := RX11) (ci := 10) (rest := [.int (zI _)]) (m_whitest (S := s.1) (b := xZ xs (i + 1)) (hI.2.1.1.xs b.m) (xZ_in _ _)) lo_X11_whitest (gtb_at 1659 (by decide +kernel) rfl) (gtb_at 1660 (by decide +kernel) rfl) (gtb_at 1661 (by decide +kernel) rfl) (gtb_at 11 (by decide +kernel) rfl) lc_X11_whitest (by decide) rfl rfl (by decide) (by omega) (by omega) rfl (Nat.le_of_ble_eq_true rfl) dL_law_720 rfl (fun v9 h2 q2 => ?_)
  obtain ⟨rfl, c, c11⟩ := q2
  show gK _ _ _ _ _ _ [.int (zI _), .int (zI _)] _
  refine gk_same (tgt := 1882) dL_law_723 (by decide) rfl ?_
  exact gk_widen (by omega) (by omega) (K h2 (hI.q b b9 c c11 (ok_aToN _ _ _ _)))
theorem lk_16 {L : Nat} {xs : Nat → Int32} {κ σ i : Nat} {h : gH} (hi : i + 6 ≤ L) (hL3 : L ≤ 3072) (hκ : κ + 2 ≤ 601024) (hσ : σ + 20 ≤ 7293034) (hI : LI2 h) (K : ∀ h', LI2 h' → gK L xs (κ + 2) (σ + 20) 1882 [some (.ref 2000), some (.ref 0), some (.ref 142), some (.ref 156), some (.int (zI (i : Int))), none, none] [] h') : gK L xs κ σ 728 [some (.ref 2000), some (.ref 0), some (.ref 142), some (.ref 156), some (.int (zI (i : Int))), none, none] [] h := by
  obtain ⟨t, n, T, B, s, q, hI⟩ := hI
  refine gk_aload_n (pc' := 729) dL_law_728 rfl rfl ?_
  refine gk_callV (C := RX10) (ci := 9) (rest := []) (x_allSit (S := s.1) hI.1.1) lo_X10_allSit (gtb_at 786 (by decide +kernel) rfl) (gtb_at 787 (by decide +kernel) rfl) (gtb_at 788 (by decide +kernel) rfl) (gtb_at 1 (by decide +kernel) rfl) lc_X10_allSit (by decide) rfl rfl (by decide) (by omega) (by omega) rfl (Nat.le_of_ble_eq_true rfl) dL_law_729 rfl (fun v9 h1 q1 => ?_)
  obtain ⟨rfl, b, b9⟩ := q1
  show gK _ _ _ _ _ _ [.int (zI _)] _
  refine gk_aload_n (pc' := 733) dL_law_732 rfl rfl ?_
  refine gk_callV (C := RX11) (ci := 10) (rest := [.int (zI _)]) (m_allSit (S := s.1) (hI.2.1.1.xs b.m)) lo_X11_allSit (gtb_at 1663 (by decide +kernel) rfl) (gtb_at 1664 (by decide +kernel) rfl) (gtb_at 1665 (by decide +kernel) rfl) (gtb_at 11 (by decide +kernel) rfl) lc_X11_allSit (by decide) rfl rfl (by decide) (by omega) (by omega) rfl (Nat.le_of_ble_eq_true rfl) dL_law_733 rfl (fun v9 h2 q2 => ?_)
  obtain ⟨rfl, c, c11⟩ := q2
  show gK _ _ _ _ _ _ [.int (zI _), .int (zI _)] _
  refine gk_same (tgt := 1882) dL_law_736 (by decide) rfl ?_
  exact gk_widen (by omega) (by omega) (K h2 (hI.q b b9 c c11 (ok_aTown _ _)))
theorem lk_17 {L : Nat} {xs : Nat → Int32} {κ σ i : Nat} {h : gH} (hi : i + 6 ≤ L) (hL3 : L ≤ 3072) (hκ : κ + 2 ≤ 601024) (hσ : σ + 20 ≤ 7293034) (hI : LI2 h) (K : ∀ h', LI2 h' → gK L xs (κ + 2) (σ + 20) 1882 [some (.ref 2000), some (.ref 0), some (.ref 142), some (.ref 156), some (.int (zI (i : Int))), none, none] [] h') : gK L xs κ σ 741 [some (.ref 2000), some (.ref 0), some (.ref 142), some (.ref 156), some (.int (zI (i : Int))), none, none] [] h := by
  obtain ⟨t, n, T, B, s, q, hI⟩ := hI
  refine gk_aload_n (pc' := 742) dL_law_741 rfl rfl ?_
  refine gk_aload_n (pc' := 743) dL_law_742 rfl rfl ?_
  refine gk_iload (pc' := 745) dL_law_743 rfl rfl ?_
  refine gk_iconst (pc' := 746) dL_law_745 rfl ?_
  refine gk_iadd (pc' := 747) dL_law_746 rfl ?_
  refine gk_sld (pc' := 748) (j := i + 1) (by omega) (by omega) hL3 dL_law_747 rfl ?_
  refine gk_callV (C := RX10) (ci := 9) (rest := []) (x_mayMeet (S := s.1) (a := xZ xs (i + 1)) hI.1.1 (xZ_in _ _)) lo_X10_mayMeet (gtb_at 795 (by decide +kernel) rfl) (gtb_at 796 (by decide +kernel) rfl) (gtb_at 797 (by decide +kernel) rfl) (gtb_at 1 (by decide +kernel) rfl) lc_X10_mayMeet (by decide) rfl rfl (by decide) (by omega) (by omega) rfl (Nat.le_of_ble_eq_true rfl) dL_law_748 rfl (fun v9 h1 q1 => ?_)
  obtain ⟨rfl, b, b9⟩ := q1
  show gK _ _ _ _ _ _ [.int (zI _)] _
  refine gk_aload_n (pc' := 752) dL_law_751 rfl rfl ?_
  refine gk_aload_n (pc' := 753) dL_law_752 rfl rfl ?_
  refine gk_iload (pc' := 755) dL_law_753 rfl rfl ?_
  refine gk_iconst (pc' := 756) dL_law_755 rfl ?_
  refine gk_iadd (pc' := 757) dL_law_756 rfl ?_
  refine gk_sld (pc' := 758) (j := i + 1) (by omega) (by omega) hL3 dL_law_757 rfl ?_
  refine gk_callV (C := RX11) (ci := 10) (rest := [.int (zI _)]) (m_mayMeet (S := s.1) (a := xZ xs (i + 1)) (hI.2.1.1.xs b.m) (xZ_in _ _)) lo_X11_mayMeet (gtb_at 1667 (by decide +kernel) rfl) (gtb_at 1668 (by decide +kernel) rfl) (gtb_at 1669 (by decide +kernel) rfl) (gtb_at 11 (by decide +kernel) rfl) lc_X11_mayMeet (by decide) rfl rfl (by decide) (by omega) (by omega) rfl (Nat.le_of_ble_eq_true rfl) dL_law_758 rfl (fun v9 h2 q2 => ?_)
  obtain ⟨rfl, c, c11⟩ := q2
  show gK _ _ _ _ _ _ [.int (zI _), .int (zI _)] _
  refine gk_same (tgt := 1882) dL_law_761 (by decide) rfl ?_
  exact gk_widen (by omega) (by omega) (K h2 (hI.q b b9 c c11 (ok_aBi _ _ _)))
theorem lk_18 {L : Nat} {xs : Nat → Int32} {κ σ i : Nat} {h : gH} (hi : i + 6 ≤ L) (hL3 : L ≤ 3072) (hκ : κ + 2 ≤ 601024) (hσ : σ + 20 ≤ 7293034) (hI : LI2 h) (K : ∀ h', LI2 h' → gK L xs (κ + 2) (σ + 20) 1882 [some (.ref 2000), some (.ref 0), some (.ref 142), some (.ref 156), some (.int (zI (i : Int))), none, none] [] h') : gK L xs κ σ 766 [some (.ref 2000), some (.ref 0), some (.ref 142), some (.ref 156), some (.int (zI (i : Int))), none, none] [] h := by
  obtain ⟨t, n, T, B, s, q, hI⟩ := hI
  refine gk_aload_n (pc' := 767) dL_law_766 rfl rfl ?_
  refine gk_aload_n (pc' := 768) dL_law_767 rfl rfl ?_
  refine gk_iload (pc' := 770) dL_law_768 rfl rfl ?_
  refine gk_iconst (pc' := 771) dL_law_770 rfl ?_
  refine gk_iadd (pc' := 772) dL_law_771 rfl ?_
  refine gk_sld (pc' := 773) (j := i + 1) (by omega) (by omega) hL3 dL_law_772 rfl ?_
  refine gk_aload_n (pc' := 774) dL_law_773 rfl rfl ?_
  refine gk_iload (pc' := 776) dL_law_774 rfl rfl ?_
  refine gk_iconst (pc' := 777) dL_law_776 rfl ?_
  refine gk_iadd (pc' := 778) dL_law_777 rfl ?_
  refine gk_sld (pc' := 779) (j := i + 2) (by omega) (by omega) hL3 dL_law_778 rfl ?_
  refine gk_callV (C := RX10) (ci := 9) (rest := []) (x_meeting (S := s.1) (a := xZ xs (i + 1)) (b := xZ xs (i + 2)) hI.1.1 (xZ_in _ _) (xZ_in _ _)) lo_X10_meeting (gtb_at 807 (by decide +kernel) rfl) (gtb_at 808 (by decide +kernel) rfl) (gtb_at 809 (by decide +kernel) rfl) (gtb_at 1 (by decide +kernel) rfl) lc_X10_meeting (by decide) rfl rfl (by decide) (by omega) (by omega) rfl (Nat.le_of_ble_eq_true rfl) dL_law_779 rfl (fun v9 h1 q1 => ?_)
  obtain ⟨rfl, b, b9⟩ := q1
  show gK _ _ _ _ _ _ [.int (zI _)] _
  refine gk_aload_n (pc' := 783) dL_law_782 rfl rfl ?_
  refine gk_aload_n (pc' := 784) dL_law_783 rfl rfl ?_
  refine gk_iload (pc' := 786) dL_law_784 rfl rfl ?_
  refine gk_iconst (pc' := 787) dL_law_786 rfl ?_
  refine gk_iadd (pc' := 788) dL_law_787 rfl ?_
  refine gk_sld (pc' := 789) (j := i + 1) (by omega) (by omega) hL3 dL_law_788 rfl ?_
  refine gk_aload_n (pc' := 790) dL_law_789 rfl rfl ?_
  refine gk_iload (pc' := 792) dL_law_790 rfl rfl ?_
  refine gk_iconst (pc' := 793) dL_law_792 rfl ?_
  refine gk_iadd (pc' := 794) dL_law_793 rfl ?_
  refine gk_sld (pc' := 795) (j := i + 2) (by omega) (by omega) hL3 dL_law_794 rfl ?_
  refine gk_callV (C := RX11) (ci := 10) (rest := [.int (zI _)]) (m_meeting (S := s.1) (a := xZ xs (i + 1)) (b := xZ xs (i + 2)) (hI.2.1.1.xs b.m) (xZ_in _ _) (xZ_in _ _)) lo_X11_meeting (gtb_at 1675 (by decide +kernel) rfl) (gtb_at 1676 (by decide +kernel) rfl) (gtb_at 1677 (by decide +kernel) rfl) (gtb_at 11 (by decide +kernel) rfl) lc_X11_meeting (by decide) rfl rfl (by decide) (by omega) (by omega) rfl (Nat.le_of_ble_eq_true rfl) dL_law_795 rfl (fun v9 h2 q2 => ?_)
  obtain ⟨rfl, c, c11⟩ := q2
  show gK _ _ _ _ _ _ [.int (zI _), .int (zI _)] _
  refine gk_same (tgt := 1882) dL_law_798 (by decide) rfl ?_
  exact gk_widen (by omega) (by omega) (K h2 (hI.q b b9 c c11 (ok_aMeeting _ _ _ _)))
theorem lk_19 {L : Nat} {xs : Nat → Int32} {κ σ i : Nat} {h : gH} (hi : i + 6 ≤ L) (hL3 : L ≤ 3072) (hκ : κ + 2 ≤ 601024) (hσ : σ + 20 ≤ 7293034) (hI : LI2 h) (K : ∀ h', LI2 h' → gK L xs (κ + 2) (σ + 20) 1882 [some (.ref 2000), some (.ref 0), some (.ref 142), some (.ref 156), some (.int (zI (i : Int))), none, none] [] h') : gK L xs κ σ 803 [some (.ref 2000), some (.ref 0), some (.ref 142), some (.ref 156), some (.int (zI (i : Int))), none, none] [] h := by
  obtain ⟨t, n, T, B, s, q, hI⟩ := hI
  refine gk_aload_n (pc' := 804) dL_law_803 rfl rfl ?_
  refine gk_aload_n (pc' := 805) dL_law_804 rfl rfl ?_
  refine gk_iload (pc' := 807) dL_law_805 rfl rfl ?_
  refine gk_iconst (pc' := 808) dL_law_807 rfl ?_
  refine gk_iadd (pc' := 809) dL_law_808 rfl ?_
  refine gk_sld (pc' := 810) (j := i + 1) (by omega) (by omega) hL3 dL_law_809 rfl ?_
  refine gk_callV (C := RX10) (ci := 9) (rest := []) (x_owes (S := s.1) (a := xZ xs (i + 1)) hI.1.1 (xZ_in _ _)) lo_X10_owes (gtb_at 822 (by decide +kernel) rfl) (gtb_at 823 (by decide +kernel) rfl) (gtb_at 824 (by decide +kernel) rfl) (gtb_at 1 (by decide +kernel) rfl) lc_X10_owes (by decide) rfl rfl (by decide) (by omega) (by omega) rfl (Nat.le_of_ble_eq_true rfl) dL_law_810 rfl (fun v9 h1 q1 => ?_)
  obtain ⟨rfl, b, b9⟩ := q1
  show gK _ _ _ _ _ _ [.int (zI _)] _
  refine gk_aload_n (pc' := 814) dL_law_813 rfl rfl ?_
  refine gk_aload_n (pc' := 815) dL_law_814 rfl rfl ?_
  refine gk_iload (pc' := 817) dL_law_815 rfl rfl ?_
  refine gk_iconst (pc' := 818) dL_law_817 rfl ?_
  refine gk_iadd (pc' := 819) dL_law_818 rfl ?_
  refine gk_sld (pc' := 820) (j := i + 1) (by omega) (by omega) hL3 dL_law_819 rfl ?_
  refine gk_callV (C := RX11) (ci := 10) (rest := [.int (zI _)]) (m_owes (S := s.1) (a := xZ xs (i + 1)) (hI.2.1.1.xs b.m) (xZ_in _ _)) lo_X11_owes (gtb_at 1687 (by decide +kernel) rfl) (gtb_at 1688 (by decide +kernel) rfl) (gtb_at 1689 (by decide +kernel) rfl) (gtb_at 11 (by decide +kernel) rfl) lc_X11_owes (by decide) rfl rfl (by decide) (by omega) (by omega) rfl (Nat.le_of_ble_eq_true rfl) dL_law_820 rfl (fun v9 h2 q2 => ?_)
  obtain ⟨rfl, c, c11⟩ := q2
  show gK _ _ _ _ _ _ [.int (zI _), .int (zI _)] _
  refine gk_same (tgt := 1882) dL_law_823 (by decide) rfl ?_
  exact gk_widen (by omega) (by omega) (K h2 (hI.q b b9 c c11 (ok_aHo _ _ _)))
theorem lk_20 {L : Nat} {xs : Nat → Int32} {κ σ i : Nat} {h : gH} (hi : i + 6 ≤ L) (hL3 : L ≤ 3072) (hκ : κ + 2 ≤ 601024) (hσ : σ + 20 ≤ 7293034) (hI : LI2 h) (K : ∀ h', LI2 h' → gK L xs (κ + 2) (σ + 20) 1882 [some (.ref 2000), some (.ref 0), some (.ref 142), some (.ref 156), some (.int (zI (i : Int))), none, none] [] h') : gK L xs κ σ 828 [some (.ref 2000), some (.ref 0), some (.ref 142), some (.ref 156), some (.int (zI (i : Int))), none, none] [] h := by
  obtain ⟨t, n, T, B, s, q, hI⟩ := hI
  refine gk_aload_n (pc' := 829) dL_law_828 rfl rfl ?_
  refine gk_callV (C := RX10) (ci := 9) (rest := []) (x_poor (S := s.1) hI.1.1) lo_X10_poor (gtb_at 830 (by decide +kernel) rfl) (gtb_at 831 (by decide +kernel) rfl) (gtb_at 832 (by decide +kernel) rfl) (gtb_at 1 (by decide +kernel) rfl) lc_X10_poor (by decide) rfl rfl (by decide) (by omega) (by omega) rfl (Nat.le_of_ble_eq_true rfl) dL_law_829 rfl (fun v9 h1 q1 => ?_)
  obtain ⟨rfl, b, b9⟩ := q1
  show gK _ _ _ _ _ _ [.int (zI _)] _
  refine gk_aload_n (pc' := 833) dL_law_832 rfl rfl ?_
  refine gk_callV (C := RX11) (ci := 10) (rest := [.int (zI _)]) (m_poor (S := s.1) (hI.2.1.1.xs b.m)) lo_X11_poor (gtb_at 1695 (by decide +kernel) rfl) (gtb_at 1696 (by decide +kernel) rfl) (gtb_at 1697 (by decide +kernel) rfl) (gtb_at 11 (by decide +kernel) rfl) lc_X11_poor (by decide) rfl rfl (by decide) (by omega) (by omega) rfl (Nat.le_of_ble_eq_true rfl) dL_law_833 rfl (fun v9 h2 q2 => ?_)
  obtain ⟨rfl, c, c11⟩ := q2
  show gK _ _ _ _ _ _ [.int (zI _), .int (zI _)] _
  refine gk_same (tgt := 1882) dL_law_836 (by decide) rfl ?_
  exact gk_widen (by omega) (by omega) (K h2 (hI.q b b9 c c11 (ok_aTown _ _)))
theorem lk_21 {L : Nat} {xs : Nat → Int32} {κ σ i : Nat} {h : gH} (hi : i + 6 ≤ L) (hL3 : L ≤ 3072) (hκ : κ + 2 ≤ 601024) (hσ : σ + 20 ≤ 7293034) (hI : LI2 h) (K : ∀ h', LI2 h' → gK L xs (κ + 2) (σ + 20) 1882 [some (.ref 2000), some (.ref 0), some (.ref 142), some (.ref 156), some (.int (zI (i : Int))), none, none] [] h') : gK L xs κ σ 841 [some (.ref 2000), some (.ref 0), some (.ref 142), some (.ref 156), some (.int (zI (i : Int))), none, none] [] h := by
  obtain ⟨t, n, T, B, s, q, hI⟩ := hI
  refine gk_aload_n (pc' := 842) dL_law_841 rfl rfl ?_
  refine gk_callV (C := RX10) (ci := 9) (rest := []) (x_peace (S := s.1) hI.1.1) lo_X10_peace (gtb_at 839 (by decide +kernel) rfl) (gtb_at 840 (by decide +kernel) rfl) (gtb_at 841 (by decide +kernel) rfl) (gtb_at 1 (by decide +kernel) rfl) lc_X10_peace (by decide) rfl rfl (by decide) (by omega) (by omega) rfl (Nat.le_of_ble_eq_true rfl) dL_law_842 rfl (fun v9 h1 q1 => ?_)
  obtain ⟨rfl, b, b9⟩ := q1
  show gK _ _ _ _ _ _ [.int (zI _)] _
  refine gk_aload_n (pc' := 846) dL_law_845 rfl rfl ?_
  refine gk_callV (C := RX11) (ci := 10) (rest := [.int (zI _)]) (m_peace (S := s.1) (hI.2.1.1.xs b.m)) lo_X11_peace (gtb_at 1699 (by decide +kernel) rfl) (gtb_at 1700 (by decide +kernel) rfl) (gtb_at 1701 (by decide +kernel) rfl) (gtb_at 11 (by decide +kernel) rfl) lc_X11_peace (by decide) rfl rfl (by decide) (by omega) (by omega) rfl (Nat.le_of_ble_eq_true rfl) dL_law_846 rfl (fun v9 h2 q2 => ?_)
  obtain ⟨rfl, c, c11⟩ := q2
  show gK _ _ _ _ _ _ [.int (zI _), .int (zI _)] _
  refine gk_same (tgt := 1882) dL_law_849 (by decide) rfl ?_
  exact gk_widen (by omega) (by omega) (K h2 (hI.q b b9 c c11 (ok_aTown _ _)))
theorem lk_22 {L : Nat} {xs : Nat → Int32} {κ σ i : Nat} {h : gH} (hi : i + 6 ≤ L) (hL3 : L ≤ 3072) (hκ : κ + 2 ≤ 601024) (hσ : σ + 20 ≤ 7293034) (hI : LI2 h) (K : ∀ h', LI2 h' → gK L xs (κ + 2) (σ + 20) 1882 [some (.ref 2000), some (.ref 0), some (.ref 142), some (.ref 156), some (.int (zI (i : Int))), none, none] [] h') : gK L xs κ σ 854 [some (.ref 2000), some (.ref 0), some (.ref 142), some (.ref 156), some (.int (zI (i : Int))), none, none] [] h := by
  obtain ⟨t, n, T, B, s, q, hI⟩ := hI
  refine gk_aload_n (pc' := 855) dL_law_854 rfl rfl ?_
  refine gk_aload_n (pc' := 856) dL_law_855 rfl rfl ?_
  refine gk_iload (pc' := 858) dL_law_856 rfl rfl ?_
  refine gk_iconst (pc' := 859) dL_law_858 rfl ?_
  refine gk_iadd (pc' := 860) dL_law_859 rfl ?_
  refine gk_sld (pc' := 861) (j := i + 1) (by omega) (by omega) hL3 dL_law_860 rfl ?_
  refine gk_callV (C := RX10) (ci := 9) (rest := []) (x_mate (S := s.1) (a := xZ xs (i + 1)) hI.1.1 (xZ_in _ _)) lo_X10_mate (gtb_at 862 (by decide +kernel) rfl) (gtb_at 863 (by decide +kernel) rfl) (gtb_at 864 (by decide +kernel) rfl) (gtb_at 1 (by decide +kernel) rfl) lc_X10_mate (by decide) rfl rfl (by decide) (by omega) (by omega) rfl (Nat.le_of_ble_eq_true rfl) dL_law_861 rfl (fun v9 h1 q1 => ?_)
  obtain ⟨rfl, b, b9⟩ := q1
  show gK _ _ _ _ _ _ [.int (zI _)] _
  refine gk_aload_n (pc' := 865) dL_law_864 rfl rfl ?_
  refine gk_aload_n (pc' := 866) dL_law_865 rfl rfl ?_
  refine gk_iload (pc' := 868) dL_law_866 rfl rfl ?_
  refine gk_iconst (pc' := 869) dL_law_868 rfl ?_
  refine gk_iadd (pc' := 870) dL_law_869 rfl ?_
  refine gk_sld (pc' := 871) (j := i + 1) (by omega) (by omega) hL3 dL_law_870 rfl ?_
  refine gk_callV (C := RX11) (ci := 10) (rest := [.int (zI _)]) (m_mate (S := s.1) (a := xZ xs (i + 1)) (hI.2.1.1.xs b.m) (xZ_in _ _)) lo_X11_mate (gtb_at 1712 (by decide +kernel) rfl) (gtb_at 1713 (by decide +kernel) rfl) (gtb_at 1714 (by decide +kernel) rfl) (gtb_at 11 (by decide +kernel) rfl) lc_X11_mate (by decide) rfl rfl (by decide) (by omega) (by omega) rfl (Nat.le_of_ble_eq_true rfl) dL_law_871 rfl (fun v9 h2 q2 => ?_)
  obtain ⟨rfl, c, c11⟩ := q2
  show gK _ _ _ _ _ _ [.int (zI _), .int (zI _)] _
  refine gk_same (tgt := 1882) dL_law_874 (by decide) rfl ?_
  exact gk_widen (by omega) (by omega) (K h2 (hI.q b b9 c c11 (ok_aBi _ _ _)))
theorem lk_23 {L : Nat} {xs : Nat → Int32} {κ σ i : Nat} {h : gH} (hi : i + 6 ≤ L) (hL3 : L ≤ 3072) (hκ : κ + 2 ≤ 601024) (hσ : σ + 20 ≤ 7293034) (hI : LI2 h) (K : ∀ h', LI2 h' → gK L xs (κ + 2) (σ + 20) 1882 [some (.ref 2000), some (.ref 0), some (.ref 142), some (.ref 156), some (.int (zI (i : Int))), none, none] [] h') : gK L xs κ σ 879 [some (.ref 2000), some (.ref 0), some (.ref 142), some (.ref 156), some (.int (zI (i : Int))), none, none] [] h := by
  obtain ⟨t, n, T, B, s, q, hI⟩ := hI
  refine gk_aload_n (pc' := 880) dL_law_879 rfl rfl ?_
  refine gk_callV (C := RX10) (ci := 9) (rest := []) (x_peaces (S := s.1) hI.1.1) lo_X10_peaces (gtb_at 875 (by decide +kernel) rfl) (gtb_at 876 (by decide +kernel) rfl) (gtb_at 877 (by decide +kernel) rfl) (gtb_at 1 (by decide +kernel) rfl) lc_X10_peaces (by decide) rfl rfl (by decide) (by omega) (by omega) rfl (Nat.le_of_ble_eq_true rfl) dL_law_880 rfl (fun v9 h1 q1 => ?_)
  obtain ⟨rfl, b, b9⟩ := q1
  show gK _ _ _ _ _ _ [.int (zI _)] _
  refine gk_aload_n (pc' := 884) dL_law_883 rfl rfl ?_
  refine gk_callV (C := RX11) (ci := 10) (rest := [.int (zI _)]) (m_peaces (S := s.1) (hI.2.1.1.xs b.m)) lo_X11_peaces (gtb_at 1716 (by decide +kernel) rfl) (gtb_at 1717 (by decide +kernel) rfl) (gtb_at 1718 (by decide +kernel) rfl) (gtb_at 11 (by decide +kernel) rfl) lc_X11_peaces (by decide) rfl rfl (by decide) (by omega) (by omega) rfl (Nat.le_of_ble_eq_true rfl) dL_law_884 rfl (fun v9 h2 q2 => ?_)
  obtain ⟨rfl, c, c11⟩ := q2
  show gK _ _ _ _ _ _ [.int (zI _), .int (zI _)] _
  refine gk_same (tgt := 1882) dL_law_887 (by decide) rfl ?_
  exact gk_widen (by omega) (by omega) (K h2 (hI.q b b9 c c11 (ok_aTown _ _)))
