/-! the law: cases 32 to 38 -/
theorem lo_X10_fits : gOkM yX10_fits 0 := ⟨by decide +kernel, by decide +kernel, by decide +kernel⟩
theorem lc_X10_fits : Cond.code yX10_fits cX10_fits 1 (some .int) ∈ gtb := (gtb_at 969 (by decide +kernel) rfl)
theorem lo_X11_fits : gOkM yX11_fits 0 := ⟨by decide +kernel, by decide +kernel, by decide +kernel⟩
theorem lc_X11_fits : Cond.code yX11_fits cX11_fits 1 (some .int) ∈ gtb := (gtb_at 1767 (by decide +kernel) rfl)
theorem lo_X10_fitAt : gOkM yX10_fitAt 2 := ⟨by decide +kernel, by decide +kernel, by decide +kernel⟩
theorem lc_X10_fitAt : Cond.code yX10_fitAt cX10_fitAt 3 (some .int) ∈ gtb := (gtb_at 973 (by decide +kernel) rfl)
theorem lo_X11_fitAt : gOkM yX11_fitAt 2 := ⟨by decide +kernel, by decide +kernel, by decide +kernel⟩
theorem lc_X11_fitAt : Cond.code yX11_fitAt cX11_fitAt 3 (some .int) ∈ gtb := (gtb_at 1791 (by decide +kernel) rfl)
theorem lo_X10_could : gOkM yX10_could 1 := ⟨by decide +kernel, by decide +kernel, by decide +kernel⟩
theorem lc_X10_could : Cond.code yX10_could cX10_could 2 (some .int) ∈ gtb := (gtb_at 982 (by decide +kernel) rfl)
theorem lo_X11_could : gOkM yX11_could 1 := ⟨by decide +kernel, by decide +kernel, by decide +kernel⟩
theorem lc_X11_could : Cond.code yX11_could cX11_could 4 (some .int) ∈ gtb := (gtb_at 1799 (by decide +kernel) rfl)
theorem lo_X10_surely : gOkM yX10_surely 1 := ⟨by decide +kernel, by decide +kernel, by decide +kernel⟩
theorem lc_X10_surely : Cond.code yX10_surely cX10_surely 2 (some .int) ∈ gtb := (gtb_at 990 (by decide +kernel) rfl)
theorem lo_X11_surely : gOkM yX11_surely 1 := ⟨by decide +kernel, by decide +kernel, by decide +kernel⟩
theorem lc_X11_surely : Cond.code yX11_surely cX11_surely 3 (some .int) ∈ gtb := (gtb_at 1803 (by decide +kernel) rfl)
theorem lo_X10_look : gOkM yX10_look 0 := ⟨by decide +kernel, by decide +kernel, by decide +kernel⟩
theorem lc_X10_look : Cond.code yX10_look cX10_look 1 (some .int) ∈ gtb := (gtb_at 1000 (by decide +kernel) rfl)
theorem lo_X11_look : gOkM yX11_look 0 := ⟨by decide +kernel, by decide +kernel, by decide +kernel⟩
theorem lc_X11_look : Cond.code yX11_look cX11_look 1 (some .int) ∈ gtb := (gtb_at 1807 (by decide +kernel) rfl)
theorem lo_X10_lookLeaves : gOkM yX10_lookLeaves 0 := ⟨by decide +kernel, by decide +kernel, by decide +kernel⟩
theorem lc_X10_lookLeaves : Cond.code yX10_lookLeaves cX10_lookLeaves 1 (some .int) ∈ gtb := (gtb_at 1017 (by decide +kernel) rfl)
theorem lo_X11_lookLeaves : gOkM yX11_lookLeaves 0 := ⟨by decide +kernel, by decide +kernel, by decide +kernel⟩
theorem lc_X11_lookLeaves : Cond.code yX11_lookLeaves cX11_lookLeaves 1 (some .int) ∈ gtb := (gtb_at 1815 (by decide +kernel) rfl)
theorem lo_X10_judge : gOkM yX10_judge 0 := ⟨by decide +kernel, by decide +kernel, by decide +kernel⟩
theorem lc_X10_judge : Cond.code yX10_judge cX10_judge 1 (some .int) ∈ gtb := (gtb_at 1026 (by decide +kernel) rfl)
theorem lo_X11_judge : gOkM yX11_judge 0 := ⟨by decide +kernel, by decide +kernel, by decide +kernel⟩
theorem lc_X11_judge : Cond.code yX11_judge cX11_judge 2 (some .int) ∈ gtb := (gtb_at 1819 (by decide +kernel) rfl)
theorem lk_32 {L : Nat} {xs : Nat → Int32} {κ σ i : Nat} {h : gH} (hi : i + 6 ≤ L) (hL3 : L ≤ 3072) (hκ : κ + 2 ≤ 601024) (hσ : σ + 20 ≤ 7293034) (hI : LI2 h) (K : ∀ h', LI2 h' → gK L xs (κ + 2) (σ + 20) 1882 [some (.ref 2000), some (.ref 0), some (.ref 142), some (.ref 156), some (.int (zI (i : Int))), none, none] [] h') : gK L xs κ σ 1104 [some (.ref 2000), some (.ref 0), some (.ref 142), some (.ref 156), some (.int (zI (i : Int))), none, none] [] h := by
  obtain ⟨t, n, T, B, s, q, hI⟩ := hI
  refine gk_aload_n (pc' := 1105) dL_law_1104 rfl rfl ?_
  refine gk_callV (C := RX10) (ci := 9) (rest := []) (x_fits (S := s.1) hI.1.1 hI.2.2.1) lo_X10_fits (gtb_at 966 (by decide +kernel) rfl) (gtb_at 967 (by decide +kernel) rfl) (gtb_at 968 (by decide +kernel) rfl) (gtb_at 1 (by decide +kernel) rfl) lc_X10_fits (by decide) rfl rfl (by decide) (by omega) (by omega) rfl (Nat.le_of_ble_eq_true rfl) dL_law_1105 rfl (fun v9 h1 q1 => ?_)
  obtain ⟨rfl, b, b9⟩ := q1
  show gK _ _ _ _ _ _ [.int (zI _)] _
  refine gk_aload_n (pc' := 1109) dL_law_1108 rfl rfl ?_
  refine gk_callV (C := RX11) (ci := 10) (rest := [.int (zI _)]) (m_fits (S := s.1) (hI.2.1.1.xs b.m)) lo_X11_fits (gtb_at 1764 (by decide +kernel) rfl) (gtb_at 1765 (by decide +kernel) rfl) (gtb_at 1766 (by decide +kernel) rfl) (gtb_at 11 (by decide +kernel) rfl) lc_X11_fits (by decide) rfl rfl (by decide) (by omega) (by omega) rfl (Nat.le_of_ble_eq_true rfl) dL_law_1109 rfl (fun v9 h2 q2 => ?_)
  obtain ⟨rfl, c, c11⟩ := q2
  show gK _ _ _ _ _ _ [.int (zI _), .int (zI _)] _
  refine gk_same (tgt := 1882) dL_law_1112 (by decide) rfl ?_
  exact gk_widen (by omega) (by omega) (K h2 (hI.q b b9 c c11 (ok_aTown _ _)))
theorem lk_33 {L : Nat} {xs : Nat → Int32} {κ σ i : Nat} {h : gH} (hi : i + 6 ≤ L) (hL3 : L ≤ 3072) (hκ : κ + 2 ≤ 601024) (hσ : σ + 20 ≤ 7293034) (hI : LI2 h) (K : ∀ h', LI2 h' → gK L xs (κ + 2) (σ + 20) 1882 [some (.ref 2000), some (.ref 0), some (.ref 142), some (.ref 156), some (.int (zI (i : Int))), none, none] [] h') : gK L xs κ σ 1117 [some (.ref 2000), some (.ref 0), some (.ref 142), some (.ref 156), some (.int (zI (i : Int))), none, none] [] h := by
  obtain ⟨t, n, T, B, s, q, hI⟩ := hI
  refine gk_aload_n (pc' := 1118) dL_law_1117 rfl rfl ?_
  refine gk_aload_n (pc' := 1119) dL_law_1118 rfl rfl ?_
  refine gk_iload (pc' := 1121) dL_law_1119 rfl rfl ?_
  refine gk_iconst (pc' := 1122) dL_law_1121 rfl ?_
  refine gk_iadd (pc' := 1123) dL_law_1122 rfl ?_
  refine gk_sld (pc' := 1124) (j := i + 1) (by omega) (by omega) hL3 dL_law_1123 rfl ?_
  refine gk_aload_n (pc' := 1125) dL_law_1124 rfl rfl ?_
  refine gk_iload (pc' := 1127) dL_law_1125 rfl rfl ?_
  refine gk_iconst (pc' := 1128) dL_law_1127 rfl ?_
  refine gk_iadd (pc' := 1129) dL_law_1128 rfl ?_
  refine gk_sld (pc' := 1130) (j := i + 2) (by omega) (by omega) hL3 dL_law_1129 rfl ?_
  refine gk_callV (C := RX10) (ci := 9) (rest := []) (x_fitAt (S := s.1) (a := xZ xs (i + 1)) (b := xZ xs (i + 2)) hI.1.1 hI.2.2.1 (xZ_in _ _) (xZ_in _ _)) lo_X10_fitAt (gtb_at 970 (by decide +kernel) rfl) (gtb_at 971 (by decide +kernel) rfl) (gtb_at 972 (by decide +kernel) rfl) (gtb_at 1 (by decide +kernel) rfl) lc_X10_fitAt (by decide) rfl rfl (by decide) (by omega) (by omega) rfl (Nat.le_of_ble_eq_true rfl) dL_law_1130 rfl (fun v9 h1 q1 => ?_)
  obtain ⟨rfl, b, b9⟩ := q1
  show gK _ _ _ _ _ _ [.int (zI _)] _
  refine gk_aload_n (pc' := 1134) dL_law_1133 rfl rfl ?_
  refine gk_aload_n (pc' := 1135) dL_law_1134 rfl rfl ?_
  refine gk_iload (pc' := 1137) dL_law_1135 rfl rfl ?_
  refine gk_iconst (pc' := 1138) dL_law_1137 rfl ?_
  refine gk_iadd (pc' := 1139) dL_law_1138 rfl ?_
  refine gk_sld (pc' := 1140) (j := i + 1) (by omega) (by omega) hL3 dL_law_1139 rfl ?_
  refine gk_aload_n (pc' := 1141) dL_law_1140 rfl rfl ?_
  refine gk_iload (pc' := 1143) dL_law_1141 rfl rfl ?_
  refine gk_iconst (pc' := 1144) dL_law_1143 rfl ?_
  refine gk_iadd (pc' := 1145) dL_law_1144 rfl ?_
  refine gk_sld (pc' := 1146) (j := i + 2) (by omega) (by omega) hL3 dL_law_1145 rfl ?_
  refine gk_callV (C := RX11) (ci := 10) (rest := [.int (zI _)]) (m_fitAt (S := s.1) (a := xZ xs (i + 1)) (b := xZ xs (i + 2)) (hI.2.1.1.xs b.m) (xZ_in _ _) (xZ_in _ _)) lo_X11_fitAt (gtb_at 1788 (by decide +kernel) rfl) (gtb_at 1789 (by decide +kernel) rfl) (gtb_at 1790 (by decide +kernel) rfl) (gtb_at 11 (by decide +kernel) rfl) lc_X11_fitAt (by decide) rfl rfl (by decide) (by omega) (by omega) rfl (Nat.le_of_ble_eq_true rfl) dL_law_1146 rfl (fun v9 h2 q2 => ?_)
  obtain ⟨rfl, c, c11⟩ := q2
  show gK _ _ _ _ _ _ [.int (zI _), .int (zI _)] _
  refine gk_same (tgt := 1882) dL_law_1149 (by decide) rfl ?_
  exact gk_widen (by omega) (by omega) (K h2 (hI.q b b9 c c11 (ok_aFitAt _ _ _)))
theorem lk_34 {L : Nat} {xs : Nat → Int32} {κ σ i : Nat} {h : gH} (hi : i + 6 ≤ L) (hL3 : L ≤ 3072) (hκ : κ + 2 ≤ 601024) (hσ : σ + 20 ≤ 7293034) (hI : LI2 h) (K : ∀ h', LI2 h' → gK L xs (κ + 2) (σ + 20) 1882 [some (.ref 2000), some (.ref 0), some (.ref 142), some (.ref 156), some (.int (zI (i : Int))), none, none] [] h') : gK L xs κ σ 1154 [some (.ref 2000), some (.ref 0), some (.ref 142), some (.ref 156), some (.int (zI (i : Int))), none, none] [] h := by
  obtain ⟨t, n, T, B, s, q, hI⟩ := hI
  refine gk_aload_n (pc' := 1155) dL_law_1154 rfl rfl ?_
  refine gk_aload_n (pc' := 1156) dL_law_1155 rfl rfl ?_
  refine gk_iload (pc' := 1158) dL_law_1156 rfl rfl ?_
  refine gk_iconst (pc' := 1159) dL_law_1158 rfl ?_
  refine gk_iadd (pc' := 1160) dL_law_1159 rfl ?_
  refine gk_sld (pc' := 1161) (j := i + 1) (by omega) (by omega) hL3 dL_law_1160 rfl ?_
  refine gk_callV (C := RX10) (ci := 9) (rest := []) (x_could (S := s.1) (a := xZ xs (i + 1)) hI.1.1 hI.2.2.1 (xZ_in _ _)) lo_X10_could (gtb_at 979 (by decide +kernel) rfl) (gtb_at 980 (by decide +kernel) rfl) (gtb_at 981 (by decide +kernel) rfl) (gtb_at 1 (by decide +kernel) rfl) lc_X10_could (by decide) rfl rfl (by decide) (by omega) (by omega) rfl (Nat.le_of_ble_eq_true rfl) dL_law_1161 rfl (fun v9 h1 q1 => ?_)
  obtain ⟨rfl, b, b9⟩ := q1
  show gK _ _ _ _ _ _ [.int (zI _)] _
  refine gk_aload_n (pc' := 1165) dL_law_1164 rfl rfl ?_
  refine gk_aload_n (pc' := 1166) dL_law_1165 rfl rfl ?_
  refine gk_iload (pc' := 1168) dL_law_1166 rfl rfl ?_
  refine gk_iconst (pc' := 1169) dL_law_1168 rfl ?_
  refine gk_iadd (pc' := 1170) dL_law_1169 rfl ?_
  refine gk_sld (pc' := 1171) (j := i + 1) (by omega) (by omega) hL3 dL_law_1170 rfl ?_
  refine gk_callV (C := RX11) (ci := 10) (rest := [.int (zI _)]) (m_could (S := s.1) (a := xZ xs (i + 1)) (hI.2.1.1.xs b.m) (xZ_in _ _)) lo_X11_could (gtb_at 1796 (by decide +kernel) rfl) (gtb_at 1797 (by decide +kernel) rfl) (gtb_at 1798 (by decide +kernel) rfl) (gtb_at 11 (by decide +kernel) rfl) lc_X11_could (by decide) rfl rfl (by decide) (by omega) (by omega) rfl (Nat.le_of_ble_eq_true rfl) dL_law_1171 rfl (fun v9 h2 q2 => ?_)
  obtain ⟨rfl, c, c11⟩ := q2
  show gK _ _ _ _ _ _ [.int (zI _), .int (zI _)] _
  refine gk_same (tgt := 1882) dL_law_1174 (by decide) rfl ?_
  exact gk_widen (by omega) (by omega) (K h2 (hI.q b b9 c c11 (ok_aSt _ _ _)))
theorem lk_35 {L : Nat} {xs : Nat → Int32} {κ σ i : Nat} {h : gH} (hi : i + 6 ≤ L) (hL3 : L ≤ 3072) (hκ : κ + 2 ≤ 601024) (hσ : σ + 20 ≤ 7293034) (hI : LI2 h) (K : ∀ h', LI2 h' → gK L xs (κ + 2) (σ + 20) 1882 [some (.ref 2000), some (.ref 0), some (.ref 142), some (.ref 156), some (.int (zI (i : Int))), none, none] [] h') : gK L xs κ σ 1179 [some (.ref 2000), some (.ref 0), some (.ref 142), some (.ref 156), some (.int (zI (i : Int))), none, none] [] h := by
  obtain ⟨t, n, T, B, s, q, hI⟩ := hI
  refine gk_aload_n (pc' := 1180) dL_law_1179 rfl rfl ?_
  refine gk_aload_n (pc' := 1181) dL_law_1180 rfl rfl ?_
  refine gk_iload (pc' := 1183) dL_law_1181 rfl rfl ?_
  refine gk_iconst (pc' := 1184) dL_law_1183 rfl ?_
  refine gk_iadd (pc' := 1185) dL_law_1184 rfl ?_
  refine gk_sld (pc' := 1186) (j := i + 1) (by omega) (by omega) hL3 dL_law_1185 rfl ?_
  refine gk_callV (C := RX10) (ci := 9) (rest := []) (x_surely (S := s.1) (a := xZ xs (i + 1)) hI.1.1 hI.2.2.1 (xZ_in _ _)) lo_X10_surely (gtb_at 987 (by decide +kernel) rfl) (gtb_at 988 (by decide +kernel) rfl) (gtb_at 989 (by decide +kernel) rfl) (gtb_at 1 (by decide +kernel) rfl) lc_X10_surely (by decide) rfl rfl (by decide) (by omega) (by omega) rfl (Nat.le_of_ble_eq_true rfl) dL_law_1186 rfl (fun v9 h1 q1 => ?_)
  obtain ⟨rfl, b, b9⟩ := q1
  show gK _ _ _ _ _ _ [.int (zI _)] _
  refine gk_aload_n (pc' := 1190) dL_law_1189 rfl rfl ?_
  refine gk_aload_n (pc' := 1191) dL_law_1190 rfl rfl ?_
  refine gk_iload (pc' := 1193) dL_law_1191 rfl rfl ?_
  refine gk_iconst (pc' := 1194) dL_law_1193 rfl ?_
  refine gk_iadd (pc' := 1195) dL_law_1194 rfl ?_
  refine gk_sld (pc' := 1196) (j := i + 1) (by omega) (by omega) hL3 dL_law_1195 rfl ?_
  refine gk_callV (C := RX11) (ci := 10) (rest := [.int (zI _)]) (m_surely (S := s.1) (a := xZ xs (i + 1)) (hI.2.1.1.xs b.m) (xZ_in _ _)) lo_X11_surely (gtb_at 1800 (by decide +kernel) rfl) (gtb_at 1801 (by decide +kernel) rfl) (gtb_at 1802 (by decide +kernel) rfl) (gtb_at 11 (by decide +kernel) rfl) lc_X11_surely (by decide) rfl rfl (by decide) (by omega) (by omega) rfl (Nat.le_of_ble_eq_true rfl) dL_law_1196 rfl (fun v9 h2 q2 => ?_)
  obtain ⟨rfl, c, c11⟩ := q2
  show gK _ _ _ _ _ _ [.int (zI _), .int (zI _)] _
  refine gk_same (tgt := 1882) dL_law_1199 (by decide) rfl ?_
  exact gk_widen (by omega) (by omega) (K h2 (hI.q b b9 c c11 (ok_aSt _ _ _)))
theorem lk_36 {L : Nat} {xs : Nat → Int32} {κ σ i : Nat} {h : gH} (hi : i + 6 ≤ L) (hL3 : L ≤ 3072) (hκ : κ + 2 ≤ 601024) (hσ : σ + 20 ≤ 7293034) (hI : LI2 h) (K : ∀ h', LI2 h' → gK L xs (κ + 2) (σ + 20) 1882 [some (.ref 2000), some (.ref 0), some (.ref 142), some (.ref 156), some (.int (zI (i : Int))), none, none] [] h') : gK L xs κ σ 1204 [some (.ref 2000), some (.ref 0), some (.ref 142), some (.ref 156), some (.int (zI (i : Int))), none, none] [] h := by
  obtain ⟨t, n, T, B, s, q, hI⟩ := hI
  refine gk_aload_n (pc' := 1205) dL_law_1204 rfl rfl ?_
  refine gk_callV (C := RX10) (ci := 9) (rest := []) (x_look (S := s.1) hI.1.1 hI.2.2.1) lo_X10_look (gtb_at 997 (by decide +kernel) rfl) (gtb_at 998 (by decide +kernel) rfl) (gtb_at 999 (by decide +kernel) rfl) (gtb_at 1 (by decide +kernel) rfl) lc_X10_look (by decide) rfl rfl (by decide) (by omega) (by omega) rfl (Nat.le_of_ble_eq_true rfl) dL_law_1205 rfl (fun v9 h1 q1 => ?_)
  obtain ⟨rfl, b, b9⟩ := q1
  show gK _ _ _ _ _ _ [.int (zI _)] _
  refine gk_aload_n (pc' := 1209) dL_law_1208 rfl rfl ?_
  refine gk_callV (C := RX11) (ci := 10) (rest := [.int (zI _)]) (m_look (S := s.1) (hI.2.1.1.xs b.m)) lo_X11_look (gtb_at 1804 (by decide +kernel) rfl) (gtb_at 1805 (by decide +kernel) rfl) (gtb_at 1806 (by decide +kernel) rfl) (gtb_at 11 (by decide +kernel) rfl) lc_X11_look (by decide) rfl rfl (by decide) (by omega) (by omega) rfl (Nat.le_of_ble_eq_true rfl) dL_law_1209 rfl (fun v9 h2 q2 => ?_)
  obtain ⟨rfl, c, c11⟩ := q2
  show gK _ _ _ _ _ _ [.int (zI _), .int (zI _)] _
  refine gk_same (tgt := 1882) dL_law_1212 (by decide) rfl ?_
  exact gk_widen (by omega) (by omega) (K h2 (hI.q b b9 c c11 (ok_aTown _ _)))
theorem lk_37 {L : Nat} {xs : Nat → Int32} {κ σ i : Nat} {h : gH} (hi : i + 6 ≤ L) (hL3 : L ≤ 3072) (hκ : κ + 2 ≤ 601024) (hσ : σ + 20 ≤ 7293034) (hI : LI2 h) (K : ∀ h', LI2 h' → gK L xs (κ + 2) (σ + 20) 1882 [some (.ref 2000), some (.ref 0), some (.ref 142), some (.ref 156), some (.int (zI (i : Int))), none, none] [] h') : gK L xs κ σ 1217 [some (.ref 2000), some (.ref 0), some (.ref 142), some (.ref 156), some (.int (zI (i : Int))), none, none] [] h := by
  obtain ⟨t, n, T, B, s, q, hI⟩ := hI
  refine gk_aload_n (pc' := 1218) dL_law_1217 rfl rfl ?_
  refine gk_callV (C := RX10) (ci := 9) (rest := []) (x_lookLeaves (S := s.1) hI.1.1 hI.2.2.1) lo_X10_lookLeaves (gtb_at 1014 (by decide +kernel) rfl) (gtb_at 1015 (by decide +kernel) rfl) (gtb_at 1016 (by decide +kernel) rfl) (gtb_at 1 (by decide +kernel) rfl) lc_X10_lookLeaves (by decide) rfl rfl (by decide) (by omega) (by omega) rfl (Nat.le_of_ble_eq_true rfl) dL_law_1218 rfl (fun v9 h1 q1 => ?_)
  obtain ⟨rfl, b, b9⟩ := q1
  show gK _ _ _ _ _ _ [.int (zI _)] _
  refine gk_aload_n (pc' := 1222) dL_law_1221 rfl rfl ?_
  refine gk_callV (C := RX11) (ci := 10) (rest := [.int (zI _)]) (m_lookLeaves (S := s.1) (hI.2.1.1.xs b.m)) lo_X11_lookLeaves (gtb_at 1812 (by decide +kernel) rfl) (gtb_at 1813 (by decide +kernel) rfl) (gtb_at 1814 (by decide +kernel) rfl) (gtb_at 11 (by decide +kernel) rfl) lc_X11_lookLeaves (by decide) rfl rfl (by decide) (by omega) (by omega) rfl (Nat.le_of_ble_eq_true rfl) dL_law_1222 rfl (fun v9 h2 q2 => ?_)
  obtain ⟨rfl, c, c11⟩ := q2
  show gK _ _ _ _ _ _ [.int (zI _), .int (zI _)] _
  refine gk_same (tgt := 1882) dL_law_1225 (by decide) rfl ?_
  exact gk_widen (by omega) (by omega) (K h2 (hI.q b b9 c c11 (ok_aTown _ _)))
theorem lk_38 {L : Nat} {xs : Nat → Int32} {κ σ i : Nat} {h : gH} (hi : i + 6 ≤ L) (hL3 : L ≤ 3072) (hκ : κ + 2 ≤ 601024) (hσ : σ + 20 ≤ 7293034) (hI : LI2 h) (K : ∀ h', LI2 h' → gK L xs (κ + 2) (σ + 20) 1882 [some (.ref 2000), some (.ref 0), some (.ref 142), some (.ref 156), some (.int (zI (i : Int))), none, none] [] h') : gK L xs κ σ 1230 [some (.ref 2000), some (.ref 0), some (.ref 142), some (.ref 156), some (.int (zI (i : Int))), none, none] [] h := by
  obtain ⟨t, n, T, B, s, q, hI⟩ := hI
  refine gk_aload_n (pc' := 1231) dL_law_1230 rfl rfl ?_
  refine gk_callV (C := RX10) (ci := 9) (rest := []) (x_judge (S := s.1) hI.1.1 hI.2.2.1) lo_X10_judge (gtb_at 1023 (by decide +kernel) rfl) (gtb_at 1024 (by decide +kernel) rfl) (gtb_at 1025 (by decide +kernel) rfl) (gtb_at 1 (by decide +kernel) rfl) lc_X10_judge (by decide) rfl rfl (by decide) (by omega) (by omega) rfl (Nat.le_of_ble_eq_true rfl) dL_law_1231 rfl (fun v9 h1 q1 => ?_)
  obtain ⟨rfl, b, b9⟩ := q1
  show gK _ _ _ _ _ _ [.int (zI _)] _
  refine gk_aload_n (pc' := 1235) dL_law_1234 rfl rfl ?_
  refine gk_callV (C := RX11) (ci := 10) (rest := [.int (zI _)]) (m_judge (S := s.1) (hI.2.1.1.xs b.m)) lo_X11_judge (gtb_at 1816 (by decide +kernel) rfl) (gtb_at 1817 (by decide +kernel) rfl) (gtb_at 1818 (by decide +kernel) rfl) (gtb_at 11 (by decide +kernel) rfl) lc_X11_judge (by decide) rfl rfl (by decide) (by omega) (by omega) rfl (Nat.le_of_ble_eq_true rfl) dL_law_1235 rfl (fun v9 h2 q2 => ?_)
  obtain ⟨rfl, c, c11⟩ := q2
  show gK _ _ _ _ _ _ [.int (zI _), .int (zI _)] _
  refine gk_same (tgt := 1882) dL_law_1238 (by decide) rfl ?_
  exact gk_widen (by omega) (by omega) (K h2 (hI.q b b9 c c11 (ok_aTown _ _)))
