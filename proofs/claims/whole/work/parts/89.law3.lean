/-! the law: cases 24 to 31 -/
theorem lo_X10_most : gOkM yX10_most 1 := ⟨by decide +kernel, by decide +kernel, by decide +kernel⟩
theorem lc_X10_most : Cond.code yX10_most cX10_most 2 (some .int) ∈ gtb := (gtb_at 886 (by decide +kernel) rfl)
theorem lo_X11_most : gOkM yX11_most 1 := ⟨by decide +kernel, by decide +kernel, by decide +kernel⟩
theorem lc_X11_most : Cond.code yX11_most cX11_most 6 (some .int) ∈ gtb := (gtb_at 1723 (by decide +kernel) rfl)
theorem lo_X10_coinsFor : gOkM yX10_coinsFor 1 := ⟨by decide +kernel, by decide +kernel, by decide +kernel⟩
theorem lc_X10_coinsFor : Cond.code yX10_coinsFor cX10_coinsFor 2 (some .int) ∈ gtb := (gtb_at 897 (by decide +kernel) rfl)
theorem lo_X11_coinsFor : gOkM yX11_coinsFor 1 := ⟨by decide +kernel, by decide +kernel, by decide +kernel⟩
theorem lc_X11_coinsFor : Cond.code yX11_coinsFor cX11_coinsFor 5 (some .int) ∈ gtb := (gtb_at 1727 (by decide +kernel) rfl)
theorem lo_X10_ring : gOkM yX10_ring 1 := ⟨by decide +kernel, by decide +kernel, by decide +kernel⟩
theorem lc_X10_ring : Cond.code yX10_ring cX10_ring 2 (some .int) ∈ gtb := (gtb_at 906 (by decide +kernel) rfl)
theorem lo_X11_ring : gOkM yX11_ring 1 := ⟨by decide +kernel, by decide +kernel, by decide +kernel⟩
theorem lc_X11_ring : Cond.code yX11_ring cX11_ring 2 (some .int) ∈ gtb := (gtb_at 1731 (by decide +kernel) rfl)
theorem lo_X10_ringAt : gOkM yX10_ringAt 2 := ⟨by decide +kernel, by decide +kernel, by decide +kernel⟩
theorem lc_X10_ringAt : Cond.code yX10_ringAt cX10_ringAt 4 (some .int) ∈ gtb := (gtb_at 928 (by decide +kernel) rfl)
theorem lo_X11_ringAt : gOkM yX11_ringAt 2 := ⟨by decide +kernel, by decide +kernel, by decide +kernel⟩
theorem lc_X11_ringAt : Cond.code yX11_ringAt cX11_ringAt 7 (some .int) ∈ gtb := (gtb_at 1747 (by decide +kernel) rfl)
theorem lo_X10_payable : gOkM yX10_payable 1 := ⟨by decide +kernel, by decide +kernel, by decide +kernel⟩
theorem lc_X10_payable : Cond.code yX10_payable cX10_payable 2 (some .int) ∈ gtb := (gtb_at 941 (by decide +kernel) rfl)
theorem lo_X11_payable : gOkM yX11_payable 1 := ⟨by decide +kernel, by decide +kernel, by decide +kernel⟩
theorem lc_X11_payable : Cond.code yX11_payable cX11_payable 6 (some .int) ∈ gtb := (gtb_at 1751 (by decide +kernel) rfl)
theorem lo_X10_bestMeeting : gOkM yX10_bestMeeting 0 := ⟨by decide +kernel, by decide +kernel, by decide +kernel⟩
theorem lc_X10_bestMeeting : Cond.code yX10_bestMeeting cX10_bestMeeting 1 (some .int) ∈ gtb := (gtb_at 945 (by decide +kernel) rfl)
theorem lo_X11_bestMeeting : gOkM yX11_bestMeeting 0 := ⟨by decide +kernel, by decide +kernel, by decide +kernel⟩
theorem lc_X11_bestMeeting : Cond.code yX11_bestMeeting cX11_bestMeeting 6 (some .int) ∈ gtb := (gtb_at 1755 (by decide +kernel) rfl)
theorem lo_X10_feud : gOkM yX10_feud 2 := ⟨by decide +kernel, by decide +kernel, by decide +kernel⟩
theorem lc_X10_feud : Cond.code yX10_feud cX10_feud 3 (some .int) ∈ gtb := (gtb_at 953 (by decide +kernel) rfl)
theorem lo_X11_feud : gOkM yX11_feud 2 := ⟨by decide +kernel, by decide +kernel, by decide +kernel⟩
theorem lc_X11_feud : Cond.code yX11_feud cX11_feud 5 (some .int) ∈ gtb := (gtb_at 1759 (by decide +kernel) rfl)
theorem lo_X10_quiet : gOkM yX10_quiet 1 := ⟨by decide +kernel, by decide +kernel, by decide +kernel⟩
theorem lc_X10_quiet : Cond.code yX10_quiet cX10_quiet 2 (some .int) ∈ gtb := (gtb_at 961 (by decide +kernel) rfl)
theorem lo_X11_quiet : gOkM yX11_quiet 1 := ⟨by decide +kernel, by decide +kernel, by decide +kernel⟩
theorem lc_X11_quiet : Cond.code yX11_quiet cX11_quiet 4 (some .int) ∈ gtb := (gtb_at 1763 (by decide +kernel) rfl)
theorem lk_24 {L : Nat} {xs : Nat → Int32} {κ σ i : Nat} {h : gH} (hi : i + 6 ≤ L) (hL3 : L ≤ 3072) (hκ : κ + 2 ≤ 601024) (hσ : σ + 20 ≤ 7293034) (hI : LI2 h) (K : ∀ h', LI2 h' → gK L xs (κ + 2) (σ + 20) 1882 [some (.ref 2000), some (.ref 0), some (.ref 142), some (.ref 156), some (.int (zI (i : Int))), none, none] [] h') : gK L xs κ σ 892 [some (.ref 2000), some (.ref 0), some (.ref 142), some (.ref 156), some (.int (zI (i : Int))), none, none] [] h := by
  obtain ⟨t, n, T, B, s, q, hI⟩ := hI
  refine gk_aload_n (pc' := 893) dL_law_892 rfl rfl ?_
  refine gk_aload_n (pc' := 894) dL_law_893 rfl rfl ?_
  refine gk_iload (pc' := 896) dL_law_894 rfl rfl ?_
  refine gk_iconst (pc' := 897) dL_law_896 rfl ?_
  refine gk_iadd (pc' := 898) dL_law_897 rfl ?_
  refine gk_sld (pc' := 899) (j := i + 1) (by omega) (by omega) hL3 dL_law_898 rfl ?_
  refine gk_callV (C := RX10) (ci := 9) (rest := []) (x_most (S := s.1) (b := xZ xs (i + 1)) hI.1.1 (xZ_in _ _)) lo_X10_most (gtb_at 883 (by decide +kernel) rfl) (gtb_at 884 (by decide +kernel) rfl) (gtb_at 885 (by decide +kernel) rfl) (gtb_at 1 (by decide +kernel) rfl) lc_X10_most (by decide) rfl rfl (by decide) (by omega) (by omega) rfl (Nat.le_of_ble_eq_true rfl) dL_law_899 rfl (fun v9 h1 q1 => ?_)
  obtain ⟨rfl, b, b9⟩ := q1
  show gK _ _ _ _ _ _ [.int (zI _)] _
  refine gk_aload_n (pc' := 903) dL_law_902 rfl rfl ?_
  refine gk_aload_n (pc' := 904) dL_law_903 rfl rfl ?_
  refine gk_iload (pc' := 906) dL_law_904 rfl rfl ?_
  refine gk_iconst (pc' := 907) dL_law_906 rfl ?_
  refine gk_iadd (pc' := 908) dL_law_907 rfl ?_
  refine gk_sld (pc' := 909) (j := i + 1) (by omega) (by omega) hL3 dL_law_908 rfl ?_
  refine gk_callV (C := RX11) (ci := 10) (rest := [.int (zI _)]) (m_most (S := s.1) (b := xZ xs (i + 1)) (hI.2.1.1.xs b.m) (xZ_in _ _)) lo_X11_most (gtb_at 1720 (by decide +kernel) rfl) (gtb_at 1721 (by decide +kernel) rfl) (gtb_at 1722 (by decide +kernel) rfl) (gtb_at 11 (by decide +kernel) rfl) lc_X11_most (by decide) rfl rfl (by decide) (by omega) (by omega) rfl (Nat.le_of_ble_eq_true rfl) dL_law_909 rfl (fun v9 h2 q2 => ?_)
  obtain ⟨rfl, c, c11⟩ := q2
  show gK _ _ _ _ _ _ [.int (zI _), .int (zI _)] _
  refine gk_same (tgt := 1882) dL_law_912 (by decide) rfl ?_
  exact gk_widen (by omega) (by omega) (K h2 (hI.q b b9 c c11 (ok_aToN _ _ _ _)))
theorem lk_25 {L : Nat} {xs : Nat → Int32} {κ σ i : Nat} {h : gH} (hi : i + 6 ≤ L) (hL3 : L ≤ 3072) (hκ : κ + 2 ≤ 601024) (hσ : σ + 20 ≤ 7293034) (hI : LI2 h) (K : ∀ h', LI2 h' → gK L xs (κ + 2) (σ + 20) 1882 [some (.ref 2000), some (.ref 0), some (.ref 142), some (.ref 156), some (.int (zI (i : Int))), none, none] [] h') : gK L xs κ σ 917 [some (.ref 2000), some (.ref 0), some (.ref 142), some (.ref 156), some (.int (zI (i : Int))), none, none] [] h := by
  obtain ⟨t, n, T, B, s, q, hI⟩ := hI
  refine gk_aload_n (pc' := 918) dL_law_917 rfl rfl ?_
  refine gk_aload_n (pc' := 919) dL_law_918 rfl rfl ?_
  refine gk_iload (pc' := 921) dL_law_919 rfl rfl ?_
  refine gk_iconst (pc' := 922) dL_law_921 rfl ?_
  refine gk_iadd (pc' := 923) dL_law_922 rfl ?_
  refine gk_sld (pc' := 924) (j := i + 1) (by omega) (by omega) hL3 dL_law_923 rfl ?_
  refine gk_callV (C := RX10) (ci := 9) (rest := []) (x_coinsFor (S := s.1) (b := xZ xs (i + 1)) hI.1.1 (xZ_in _ _)) lo_X10_coinsFor (gtb_at 894 (by decide +kernel) rfl) (gtb_at 895 (by decide +kernel) rfl) (gtb_at 896 (by decide +kernel) rfl) (gtb_at 1 (by decide +kernel) rfl) lc_X10_coinsFor (by decide) rfl rfl (by decide) (by omega) (by omega) rfl (Nat.le_of_ble_eq_true rfl) dL_law_924 rfl (fun v9 h1 q1 => ?_)
  obtain ⟨rfl, b, b9⟩ := q1
  show gK _ _ _ _ _ _ [.int (zI _)] _
  refine gk_aload_n (pc' := 928) dL_law_927 rfl rfl ?_
  refine gk_aload_n (pc' := 929) dL_law_928 rfl rfl ?_
  refine gk_iload (pc' := 931) dL_law_929 rfl rfl ?_
  refine gk_iconst (pc' := 932) dL_law_931 rfl ?_
  refine gk_iadd (pc' := 933) dL_law_932 rfl ?_
  refine gk_sld (pc' := 934) (j := i + 1) (by omega) (by omega) hL3 dL_law_933 rfl ?_
  refine gk_callV (C := RX11) (ci := 10) (rest := [.int (zI _)]) (m_coinsFor (S := s.1) (b := xZ xs (i + 1)) (hI.2.1.1.xs b.m) (xZ_in _ _)) lo_X11_coinsFor (gtb_at 1724 (by decide +kernel) rfl) (gtb_at 1725 (by decide +kernel) rfl) (gtb_at 1726 (by decide +kernel) rfl) (gtb_at 11 (by decide +kernel) rfl) lc_X11_coinsFor (by decide) rfl rfl (by decide) (by omega) (by omega) rfl (Nat.le_of_ble_eq_true rfl) dL_law_934 rfl (fun v9 h2 q2 => ?_)
  obtain ⟨rfl, c, c11⟩ := q2
  show gK _ _ _ _ _ _ [.int (zI _), .int (zI _)] _
  refine gk_same (tgt := 1882) dL_law_937 (by decide) rfl ?_
  exact gk_widen (by omega) (by omega) (K h2 (hI.q b b9 c c11 (ok_aToN _ _ _ _)))
theorem lk_26 {L : Nat} {xs : Nat → Int32} {κ σ i : Nat} {h : gH} (hi : i + 6 ≤ L) (hL3 : L ≤ 3072) (hκ : κ + 2 ≤ 601024) (hσ : σ + 20 ≤ 7293034) (hI : LI2 h) (K : ∀ h', LI2 h' → gK L xs (κ + 2) (σ + 20) 1882 [some (.ref 2000), some (.ref 0), some (.ref 142), some (.ref 156), some (.int (zI (i : Int))), none, none] [] h') : gK L xs κ σ 942 [some (.ref 2000), some (.ref 0), some (.ref 142), some (.ref 156), some (.int (zI (i : Int))), none, none] [] h := by
  obtain ⟨t, n, T, B, s, q, hI⟩ := hI
  refine gk_aload_n (pc' := 943) dL_law_942 rfl rfl ?_
  refine gk_aload_n (pc' := 944) dL_law_943 rfl rfl ?_
  refine gk_iload (pc' := 946) dL_law_944 rfl rfl ?_
  refine gk_iconst (pc' := 947) dL_law_946 rfl ?_
  refine gk_iadd (pc' := 948) dL_law_947 rfl ?_
  refine gk_sld (pc' := 949) (j := i + 1) (by omega) (by omega) hL3 dL_law_948 rfl ?_
  refine gk_callV (C := RX10) (ci := 9) (rest := []) (x_ring (S := s.1) (a := xZ xs (i + 1)) hI.1.1 (xZ_in _ _)) lo_X10_ring (gtb_at 903 (by decide +kernel) rfl) (gtb_at 904 (by decide +kernel) rfl) (gtb_at 905 (by decide +kernel) rfl) (gtb_at 1 (by decide +kernel) rfl) lc_X10_ring (by decide) rfl rfl (by decide) (by omega) (by omega) rfl (Nat.le_of_ble_eq_true rfl) dL_law_949 rfl (fun v9 h1 q1 => ?_)
  obtain ⟨rfl, b, b9⟩ := q1
  show gK _ _ _ _ _ _ [.int (zI _)] _
  refine gk_aload_n (pc' := 953) dL_law_952 rfl rfl ?_
  refine gk_aload_n (pc' := 954) dL_law_953 rfl rfl ?_
  refine gk_iload (pc' := 956) dL_law_954 rfl rfl ?_
  refine gk_iconst (pc' := 957) dL_law_956 rfl ?_
  refine gk_iadd (pc' := 958) dL_law_957 rfl ?_
  refine gk_sld (pc' := 959) (j := i + 1) (by omega) (by omega) hL3 dL_law_958 rfl ?_
  refine gk_callV (C := RX11) (ci := 10) (rest := [.int (zI _)]) (m_ring (S := s.1) (a := xZ xs (i + 1)) (hI.2.1.1.xs b.m) (xZ_in _ _)) lo_X11_ring (gtb_at 1728 (by decide +kernel) rfl) (gtb_at 1729 (by decide +kernel) rfl) (gtb_at 1730 (by decide +kernel) rfl) (gtb_at 11 (by decide +kernel) rfl) lc_X11_ring (by decide) rfl rfl (by decide) (by omega) (by omega) rfl (Nat.le_of_ble_eq_true rfl) dL_law_959 rfl (fun v9 h2 q2 => ?_)
  obtain ⟨rfl, c, c11⟩ := q2
  show gK _ _ _ _ _ _ [.int (zI _), .int (zI _)] _
  refine gk_same (tgt := 1882) dL_law_962 (by decide) rfl ?_
  exact gk_widen (by omega) (by omega) (K h2 (hI.q b b9 c c11 (ok_aHo _ _ _)))
theorem lk_27 {L : Nat} {xs : Nat → Int32} {κ σ i : Nat} {h : gH} (hi : i + 6 ≤ L) (hL3 : L ≤ 3072) (hκ : κ + 2 ≤ 601024) (hσ : σ + 20 ≤ 7293034) (hI : LI2 h) (K : ∀ h', LI2 h' → gK L xs (κ + 2) (σ + 20) 1882 [some (.ref 2000), some (.ref 0), some (.ref 142), some (.ref 156), some (.int (zI (i : Int))), none, none] [] h') : gK L xs κ σ 967 [some (.ref 2000), some (.ref 0), some (.ref 142), some (.ref 156), some (.int (zI (i : Int))), none, none] [] h := by
  obtain ⟨t, n, T, B, s, q, hI⟩ := hI
  refine gk_aload_n (pc' := 968) dL_law_967 rfl rfl ?_
  refine gk_aload_n (pc' := 969) dL_law_968 rfl rfl ?_
  refine gk_iload (pc' := 971) dL_law_969 rfl rfl ?_
  refine gk_iconst (pc' := 972) dL_law_971 rfl ?_
  refine gk_iadd (pc' := 973) dL_law_972 rfl ?_
  refine gk_sld (pc' := 974) (j := i + 1) (by omega) (by omega) hL3 dL_law_973 rfl ?_
  refine gk_aload_n (pc' := 975) dL_law_974 rfl rfl ?_
  refine gk_iload (pc' := 977) dL_law_975 rfl rfl ?_
  refine gk_iconst (pc' := 978) dL_law_977 rfl ?_
  refine gk_iadd (pc' := 979) dL_law_978 rfl ?_
  refine gk_sld (pc' := 980) (j := i + 2) (by omega) (by omega) hL3 dL_law_979 rfl ?_
  refine gk_callV (C := RX10) (ci := 9) (rest := []) (x_ringAt (S := s.1) (a := xZ xs (i + 1)) (b := xZ xs (i + 2)) hI.1.1 (xZ_in _ _) (xZ_in _ _)) lo_X10_ringAt (gtb_at 925 (by decide +kernel) rfl) (gtb_at 926 (by decide +kernel) rfl) (gtb_at 927 (by decide +kernel) rfl) (gtb_at 1 (by decide +kernel) rfl) lc_X10_ringAt (by decide) rfl rfl (by decide) (by omega) (by omega) rfl (Nat.le_of_ble_eq_true rfl) dL_law_980 rfl (fun v9 h1 q1 => ?_)
  obtain ⟨rfl, b, b9⟩ := q1
  show gK _ _ _ _ _ _ [.int (zI _)] _
  refine gk_aload_n (pc' := 984) dL_law_983 rfl rfl ?_
  refine gk_aload_n (pc' := 985) dL_law_984 rfl rfl ?_
  refine gk_iload (pc' := 987) dL_law_985 rfl rfl ?_
  refine gk_iconst (pc' := 988) dL_law_987 rfl ?_
  refine gk_iadd (pc' := 989) dL_law_988 rfl ?_
  refine gk_sld (pc' := 990) (j := i + 1) (by omega) (by omega) hL3 dL_law_989 rfl ?_
  refine gk_aload_n (pc' := 991) dL_law_990 rfl rfl ?_
  refine gk_iload (pc' := 993) dL_law_991 rfl rfl ?_
  refine gk_iconst (pc' := 994) dL_law_993 rfl ?_
  refine gk_iadd (pc' := 995) dL_law_994 rfl ?_
  refine gk_sld (pc' := 996) (j := i + 2) (by omega) (by omega) hL3 dL_law_995 rfl ?_
  refine gk_callV (C := RX11) (ci := 10) (rest := [.int (zI _)]) (m_ringAt (S := s.1) (a := xZ xs (i + 1)) (b := xZ xs (i + 2)) (hI.2.1.1.xs b.m) (xZ_in _ _) (xZ_in _ _)) lo_X11_ringAt (gtb_at 1744 (by decide +kernel) rfl) (gtb_at 1745 (by decide +kernel) rfl) (gtb_at 1746 (by decide +kernel) rfl) (gtb_at 11 (by decide +kernel) rfl) lc_X11_ringAt (by decide) rfl rfl (by decide) (by omega) (by omega) rfl (Nat.le_of_ble_eq_true rfl) dL_law_996 rfl (fun v9 h2 q2 => ?_)
  obtain ⟨rfl, c, c11⟩ := q2
  show gK _ _ _ _ _ _ [.int (zI _), .int (zI _)] _
  refine gk_same (tgt := 1882) dL_law_999 (by decide) rfl ?_
  exact gk_widen (by omega) (by omega) (K h2 (hI.q b b9 c c11 (ok_aRgAt _ _ _ _)))
theorem lk_28 {L : Nat} {xs : Nat → Int32} {κ σ i : Nat} {h : gH} (hi : i + 6 ≤ L) (hL3 : L ≤ 3072) (hκ : κ + 2 ≤ 601024) (hσ : σ + 20 ≤ 7293034) (hI : LI2 h) (K : ∀ h', LI2 h' → gK L xs (κ + 2) (σ + 20) 1882 [some (.ref 2000), some (.ref 0), some (.ref 142), some (.ref 156), some (.int (zI (i : Int))), none, none] [] h') : gK L xs κ σ 1004 [some (.ref 2000), some (.ref 0), some (.ref 142), some (.ref 156), some (.int (zI (i : Int))), none, none] [] h := by
  obtain ⟨t, n, T, B, s, q, hI⟩ := hI
  refine gk_aload_n (pc' := 1005) dL_law_1004 rfl rfl ?_
  refine gk_aload_n (pc' := 1006) dL_law_1005 rfl rfl ?_
  refine gk_iload (pc' := 1008) dL_law_1006 rfl rfl ?_
  refine gk_iconst (pc' := 1009) dL_law_1008 rfl ?_
  refine gk_iadd (pc' := 1010) dL_law_1009 rfl ?_
  refine gk_sld (pc' := 1011) (j := i + 1) (by omega) (by omega) hL3 dL_law_1010 rfl ?_
  refine gk_callV (C := RX10) (ci := 9) (rest := []) (x_payable (S := s.1) (a := xZ xs (i + 1)) hI.1.1 (xZ_in _ _)) lo_X10_payable (gtb_at 938 (by decide +kernel) rfl) (gtb_at 939 (by decide +kernel) rfl) (gtb_at 940 (by decide +kernel) rfl) (gtb_at 1 (by decide +kernel) rfl) lc_X10_payable (by decide) rfl rfl (by decide) (by omega) (by omega) rfl (Nat.le_of_ble_eq_true rfl) dL_law_1011 rfl (fun v9 h1 q1 => ?_)
  obtain ⟨rfl, b, b9⟩ := q1
  show gK _ _ _ _ _ _ [.int (zI _)] _
  refine gk_aload_n (pc' := 1015) dL_law_1014 rfl rfl ?_
  refine gk_aload_n (pc' := 1016) dL_law_1015 rfl rfl ?_
  refine gk_iload (pc' := 1018) dL_law_1016 rfl rfl ?_
  refine gk_iconst (pc' := 1019) dL_law_1018 rfl ?_
  refine gk_iadd (pc' := 1020) dL_law_1019 rfl ?_
  refine gk_sld (pc' := 1021) (j := i + 1) (by omega) (by omega) hL3 dL_law_1020 rfl ?_
  refine gk_callV (C := RX11) (ci := 10) (rest := [.int (zI _)]) (m_payable (S := s.1) (a := xZ xs (i + 1)) (hI.2.1.1.xs b.m) (xZ_in _ _)) lo_X11_payable (gtb_at 1748 (by decide +kernel) rfl) (gtb_at 1749 (by decide +kernel) rfl) (gtb_at 1750 (by decide +kernel) rfl) (gtb_at 11 (by decide +kernel) rfl) lc_X11_payable (by decide) rfl rfl (by decide) (by omega) (by omega) rfl (Nat.le_of_ble_eq_true rfl) dL_law_1021 rfl (fun v9 h2 q2 => ?_)
  obtain ⟨rfl, c, c11⟩ := q2
  show gK _ _ _ _ _ _ [.int (zI _), .int (zI _)] _
  refine gk_same (tgt := 1882) dL_law_1024 (by decide) rfl ?_
  exact gk_widen (by omega) (by omega) (K h2 (hI.q b b9 c c11 (ok_aHo _ _ _)))
theorem lk_29 {L : Nat} {xs : Nat → Int32} {κ σ i : Nat} {h : gH} (hi : i + 6 ≤ L) (hL3 : L ≤ 3072) (hκ : κ + 2 ≤ 601024) (hσ : σ + 20 ≤ 7293034) (hI : LI2 h) (K : ∀ h', LI2 h' → gK L xs (κ + 2) (σ + 20) 1882 [some (.ref 2000), some (.ref 0), some (.ref 142), some (.ref 156), some (.int (zI (i : Int))), none, none] [] h') : gK L xs κ σ 1029 [some (.ref 2000), some (.ref 0), some (.ref 142), some (.ref 156), some (.int (zI (i : Int))), none, none] [] h := by
  obtain ⟨t, n, T, B, s, q, hI⟩ := hI
  refine gk_aload_n (pc' := 1030) dL_law_1029 rfl rfl ?_
  refine gk_callV (C := RX10) (ci := 9) (rest := []) (x_bestMeeting (S := s.1) hI.1.1) lo_X10_bestMeeting (gtb_at 942 (by decide +kernel) rfl) (gtb_at 943 (by decide +kernel) rfl) (gtb_at 944 (by decide +kernel) rfl) (gtb_at 1 (by decide +kernel) rfl) lc_X10_bestMeeting (by decide) rfl rfl (by decide) (by omega) (by omega) rfl (Nat.le_of_ble_eq_true rfl) dL_law_1030 rfl (fun v9 h1 q1 => ?_)
  obtain ⟨rfl, b, b9⟩ := q1
  show gK _ _ _ _ _ _ [.int (zI _)] _
  refine gk_aload_n (pc' := 1034) dL_law_1033 rfl rfl ?_
  refine gk_callV (C := RX11) (ci := 10) (rest := [.int (zI _)]) (m_bestMeeting (S := s.1) (hI.2.1.1.xs b.m)) lo_X11_bestMeeting (gtb_at 1752 (by decide +kernel) rfl) (gtb_at 1753 (by decide +kernel) rfl) (gtb_at 1754 (by decide +kernel) rfl) (gtb_at 11 (by decide +kernel) rfl) lc_X11_bestMeeting (by decide) rfl rfl (by decide) (by omega) (by omega) rfl (Nat.le_of_ble_eq_true rfl) dL_law_1034 rfl (fun v9 h2 q2 => ?_)
  obtain ⟨rfl, c, c11⟩ := q2
  show gK _ _ _ _ _ _ [.int (zI _), .int (zI _)] _
  refine gk_same (tgt := 1882) dL_law_1037 (by decide) rfl ?_
  exact gk_widen (by omega) (by omega) (K h2 (hI.q b b9 c c11 (ok_aTown _ _)))
theorem lk_30 {L : Nat} {xs : Nat → Int32} {κ σ i : Nat} {h : gH} (hi : i + 6 ≤ L) (hL3 : L ≤ 3072) (hκ : κ + 2 ≤ 601024) (hσ : σ + 20 ≤ 7293034) (hI : LI2 h) (K : ∀ h', LI2 h' → gK L xs (κ + 2) (σ + 20) 1882 [some (.ref 2000), some (.ref 0), some (.ref 142), some (.ref 156), some (.int (zI (i : Int))), none, none] [] h') : gK L xs κ σ 1042 [some (.ref 2000), some (.ref 0), some (.ref 142), some (.ref 156), some (.int (zI (i : Int))), none, none] [] h := by
  obtain ⟨t, n, T, B, s, q, hI⟩ := hI
  refine gk_aload_n (pc' := 1043) dL_law_1042 rfl rfl ?_
  refine gk_aload_n (pc' := 1044) dL_law_1043 rfl rfl ?_
  refine gk_iload (pc' := 1046) dL_law_1044 rfl rfl ?_
  refine gk_iconst (pc' := 1047) dL_law_1046 rfl ?_
  refine gk_iadd (pc' := 1048) dL_law_1047 rfl ?_
  refine gk_sld (pc' := 1049) (j := i + 1) (by omega) (by omega) hL3 dL_law_1048 rfl ?_
  refine gk_aload_n (pc' := 1050) dL_law_1049 rfl rfl ?_
  refine gk_iload (pc' := 1052) dL_law_1050 rfl rfl ?_
  refine gk_iconst (pc' := 1053) dL_law_1052 rfl ?_
  refine gk_iadd (pc' := 1054) dL_law_1053 rfl ?_
  refine gk_sld (pc' := 1055) (j := i + 2) (by omega) (by omega) hL3 dL_law_1054 rfl ?_
  refine gk_callV (C := RX10) (ci := 9) (rest := []) (x_feud (S := s.1) (a := xZ xs (i + 1)) (b := xZ xs (i + 2)) hI.1.1 (xZ_in _ _) (xZ_in _ _)) lo_X10_feud (gtb_at 950 (by decide +kernel) rfl) (gtb_at 951 (by decide +kernel) rfl) (gtb_at 952 (by decide +kernel) rfl) (gtb_at 1 (by decide +kernel) rfl) lc_X10_feud (by decide) rfl rfl (by decide) (by omega) (by omega) rfl (Nat.le_of_ble_eq_true rfl) dL_law_1055 rfl (fun v9 h1 q1 => ?_)
  obtain ⟨rfl, b, b9⟩ := q1
  show gK _ _ _ _ _ _ [.int (zI _)] _
  refine gk_aload_n (pc' := 1059) dL_law_1058 rfl rfl ?_
  refine gk_aload_n (pc' := 1060) dL_law_1059 rfl rfl ?_
  refine gk_iload (pc' := 1062) dL_law_1060 rfl rfl ?_
  refine gk_iconst (pc' := 1063) dL_law_1062 rfl ?_
  refine gk_iadd (pc' := 1064) dL_law_1063 rfl ?_
  refine gk_sld (pc' := 1065) (j := i + 1) (by omega) (by omega) hL3 dL_law_1064 rfl ?_
  refine gk_aload_n (pc' := 1066) dL_law_1065 rfl rfl ?_
  refine gk_iload (pc' := 1068) dL_law_1066 rfl rfl ?_
  refine gk_iconst (pc' := 1069) dL_law_1068 rfl ?_
  refine gk_iadd (pc' := 1070) dL_law_1069 rfl ?_
  refine gk_sld (pc' := 1071) (j := i + 2) (by omega) (by omega) hL3 dL_law_1070 rfl ?_
  refine gk_callV (C := RX11) (ci := 10) (rest := [.int (zI _)]) (m_feud (S := s.1) (a := xZ xs (i + 1)) (b := xZ xs (i + 2)) (hI.2.1.1.xs b.m) (xZ_in _ _) (xZ_in _ _)) lo_X11_feud (gtb_at 1756 (by decide +kernel) rfl) (gtb_at 1757 (by decide +kernel) rfl) (gtb_at 1758 (by decide +kernel) rfl) (gtb_at 11 (by decide +kernel) rfl) lc_X11_feud (by decide) rfl rfl (by decide) (by omega) (by omega) rfl (Nat.le_of_ble_eq_true rfl) dL_law_1071 rfl (fun v9 h2 q2 => ?_)
  obtain ⟨rfl, c, c11⟩ := q2
  show gK _ _ _ _ _ _ [.int (zI _), .int (zI _)] _
  refine gk_same (tgt := 1882) dL_law_1074 (by decide) rfl ?_
  exact gk_widen (by omega) (by omega) (K h2 (hI.q b b9 c c11 (ok_aFeud _ _ _ _)))
theorem lk_31 {L : Nat} {xs : Nat → Int32} {κ σ i : Nat} {h : gH} (hi : i + 6 ≤ L) (hL3 : L ≤ 3072) (hκ : κ + 2 ≤ 601024) (hσ : σ + 20 ≤ 7293034) (hI : LI2 h) (K : ∀ h', LI2 h' → gK L xs (κ + 2) (σ + 20) 1882 [some (.ref 2000), some (.ref 0), some (.ref 142), some (.ref 156), some (.int (zI (i : Int))), none, none] [] h') : gK L xs κ σ 1079 [some (.ref 2000), some (.ref 0), some (.ref 142), some (.ref 156), some (.int (zI (i : Int))), none, none] [] h := by
  obtain ⟨t, n, T, B, s, q, hI⟩ := hI
  refine gk_aload_n (pc' := 1080) dL_law_1079 rfl rfl ?_
  refine gk_aload_n (pc' := 1081) dL_law_1080 rfl rfl ?_
  refine gk_iload (pc' := 1083) dL_law_1081 rfl rfl ?_
  refine gk_iconst (pc' := 1084) dL_law_1083 rfl ?_
  refine gk_iadd (pc' := 1085) dL_law_1084 rfl ?_
  refine gk_sld (pc' := 1086) (j := i + 1) (by omega) (by omega) hL3 dL_law_1085 rfl ?_
  refine gk_callV (C := RX10) (ci := 9) (rest := []) (x_quiet (S := s.1) (a := xZ xs (i + 1)) hI.1.1 (xZ_in _ _)) lo_X10_quiet (gtb_at 958 (by decide +kernel) rfl) (gtb_at 959 (by decide +kernel) rfl) (gtb_at 960 (by decide +kernel) rfl) (gtb_at 1 (by decide +kernel) rfl) lc_X10_quiet (by decide) rfl rfl (by decide) (by omega) (by omega) rfl (Nat.le_of_ble_eq_true rfl) dL_law_1086 rfl (fun v9 h1 q1 => ?_)
  obtain ⟨rfl, b, b9⟩ := q1
  show gK _ _ _ _ _ _ [.int (zI _)] _
  refine gk_aload_n (pc' := 1090) dL_law_1089 rfl rfl ?_
  refine gk_aload_n (pc' := 1091) dL_law_1090 rfl rfl ?_
  refine gk_iload (pc' := 1093) dL_law_1091 rfl rfl ?_
  refine gk_iconst (pc' := 1094) dL_law_1093 rfl ?_
  refine gk_iadd (pc' := 1095) dL_law_1094 rfl ?_
  refine gk_sld (pc' := 1096) (j := i + 1) (by omega) (by omega) hL3 dL_law_1095 rfl ?_
  refine gk_callV (C := RX11) (ci := 10) (rest := [.int (zI _)]) (m_quiet (S := s.1) (a := xZ xs (i + 1)) (hI.2.1.1.xs b.m) (xZ_in _ _)) lo_X11_quiet (gtb_at 1760 (by decide +kernel) rfl) (gtb_at 1761 (by decide +kernel) rfl) (gtb_at 1762 (by decide +kernel) rfl) (gtb_at 11 (by decide +kernel) rfl) lc_X11_quiet (by decide) rfl rfl (by decide) (by omega) (by omega) rfl (Nat.le_of_ble_eq_true rfl) dL_law_1096 rfl (fun v9 h2 q2 => ?_)
  obtain ⟨rfl, c, c11⟩ := q2
  show gK _ _ _ _ _ _ [.int (zI _), .int (zI _)] _
  refine gk_same (tgt := 1882) dL_law_1099 (by decide) rfl ?_
  exact gk_widen (by omega) (by omega) (K h2 (hI.q b b9 c c11 (ok_aHo _ _ _)))
