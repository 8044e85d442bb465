/-! size, trouble, fault, where: both sides -/
/-- what size tells besides XQ, a town or none -/
def SZ (h : gH) (t : Nat) (T S : Nat → Nat) : Prop := (h.1 t 0 = (T 0 : Int) ∧ h.1 t 1 = (T 1 : Int) ∧ h.1 t 2 = (T 2 : Int)) ∧ h.1 (t + 10) 4 = (T 6 : Int) ∧ (h.1 52 0 = (S 20 : Int) ∧ h.1 52 1 = (S 21 : Int)) ∧ (T 3 = 0 → T 0 = 0 ∧ T 1 = 0 ∧ T 2 = 0 ∧ T 6 = 0 ∧ S 20 = 0 ∧ S 21 = 0)
def aSize (T : Nat → Nat) (s : gSt) (tp : Nat) (a : Int) : Int := if 0 ≤ a ∧ a ≤ 6 then (T a.toNat : Int) else if a = 7 then (s.1 20 : Int) else if a = 8 then (s.1 21 : Int) else if a = 9 then (s.2.1.1 : Int) else if a = 10 then (s.2.2.1 : Int) else if a = 11 then (tp : Int) else -1
theorem aSize_lo {T : Nat → Nat} {s : gSt} {tp : Nat} {a : Int} (n : Nat) (h : a = (n : Int)) (hn : n ≤ 6) : aSize T s tp a = (T n : Int) := by
  subst h
  unfold aSize
  rw [if_pos (by omega), Int.toNat_natCast]
theorem x_size {h : gH} {t tp : Nat} {T : Nat → Nat} {s : gSt} {a : Int} (hX : XST h t T s) (hZ : SZ h t T s.1) (hp : h.1 2 1 = (tp : Int)) (ha : inB a) : gSp 12 yX10_size cX10_size 2 (some .int) [.ref 0, .int (zI a)] h (gR (.int (zI (aSize T s tp a))) h) := by
  obtain ⟨hQ, hH, -⟩ := id hX
  obtain ⟨ht, hP, hF, -, -⟩ := id hQ
  obtain ⟨z0, z1, z2, -⟩ := id hZ
  obtain ⟨x, hx, hn, hm, e2, e3, e4, -, -⟩ := id hH
  obtain ⟨s0, s1, s2, s3, s4, s5, s6, s7, s8, s9, s10⟩ := shT ht
  unfold inB at ha
  refine gSp_of (by decide +kernel) (Nat.le_of_ble_eq_true rfl) ?_
  show gJ RX10 cX10_size 2 (some .int) _ 0 [some (.ref 0), some (.int (zI a))] [] _ _
  refine gj_iload_n (pc' := 1) dX10_size_0 rfl rfl ?_
  rcases (show a < 0 ∨ a = 0 ∨ a = 1 ∨ a = 2 ∨ a = 3 ∨ a = 4 ∨ a = 5 ∨ a = 6 ∨ a = 7 ∨ a = 8 ∨ a = 9 ∨ a = 10 ∨ a = 11 ∨ 11 < a by omega) with sw1 | sw1 | sw1 | sw1 | sw1 | sw1 | sw1 | sw1 | sw1 | sw1 | sw1 | sw1 | sw1 | sw1
  · refine gj_tabOut (pc' := 169) dX10_size_1 (by omega) (Or.inl sw1) (by decide) ?_
    refine gj_iconst (pc' := 170) dX10_size_169 rfl ?_
    refine gj_iret rfl dX10_size_170 ?_
    exact gR_i (by unfold aSize; repeat' (first | rfl | (exfalso; omega) | split))
  · refine gj_tabIn (pc' := 64) (off := 63) dX10_size_1 (by omega) (by omega) (by omega) (by rw [sw1]; rfl) (by decide) ?_
    refine gj_aload_n (pc' := 65) dX10_size_64 rfl rfl ?_
    refine gf_X10_54 (pc' := 68) dX10_size_65 rfl (by first | rfl | assumption) rfl ?_
    rw [hP]
    refine gf_X10_384 (pc' := 71) dX10_size_68 rfl (by first | rfl | assumption) rfl ?_
    rw [z0.1]
    refine gj_iret rfl dX10_size_71 ?_
    exact gR_i (aSize_lo 0 sw1 (by decide)).symm
  · refine gj_tabIn (pc' := 72) (off := 71) dX10_size_1 (by omega) (by omega) (by omega) (by rw [sw1]; rfl) (by decide) ?_
    refine gj_aload_n (pc' := 73) dX10_size_72 rfl rfl ?_
    refine gf_X10_54 (pc' := 76) dX10_size_73 rfl (by first | rfl | assumption) rfl ?_
    rw [hP]
    refine gf_X10_309 (pc' := 79) dX10_size_76 rfl (by first | rfl | assumption) rfl ?_
    rw [z0.2.1]
    refine gj_iret rfl dX10_size_79 ?_
    exact gR_i (aSize_lo 1 sw1 (by decide)).symm
  · refine gj_tabIn (pc' := 80) (off := 79) dX10_size_1 (by omega) (by omega) (by omega) (by rw [sw1]; rfl) (by decide) ?_
    refine gj_aload_n (pc' := 81) dX10_size_80 rfl rfl ?_
    refine gf_X10_54 (pc' := 84) dX10_size_81 rfl (by first | rfl | assumption) rfl ?_
    rw [hP]
    refine gf_X10_333 (pc' := 87) dX10_size_84 rfl (by first | rfl | assumption) rfl ?_
    rw [z0.2.2]
    refine gj_iret rfl dX10_size_87 ?_
    exact gR_i (aSize_lo 2 sw1 (by decide)).symm
  · refine gj_tabIn (pc' := 88) (off := 87) dX10_size_1 (by omega) (by omega) (by omega) (by rw [sw1]; rfl) (by decide) ?_
    refine gj_aload_n (pc' := 89) dX10_size_88 rfl rfl ?_
    refine gf_X10_54 (pc' := 92) dX10_size_89 rfl (by first | rfl | assumption) rfl ?_
    rw [hP]
    refine gf_X10_102 (pc' := 95) dX10_size_92 rfl (by first | rfl | assumption) rfl ?_
    rw [hF.1]
    refine gj_iret rfl dX10_size_95 ?_
    exact gR_i (aSize_lo 3 sw1 (by decide)).symm
  · refine gj_tabIn (pc' := 96) (off := 95) dX10_size_1 (by omega) (by omega) (by omega) (by rw [sw1]; rfl) (by decide) ?_
    refine gj_aload_n (pc' := 97) dX10_size_96 rfl rfl ?_
    refine gf_X10_54 (pc' := 100) dX10_size_97 rfl (by first | rfl | assumption) rfl ?_
    rw [hP]
    refine gf_X10_371 (pc' := 103) dX10_size_100 rfl (by first | rfl | assumption) rfl ?_
    rw [hF.2.1]
    refine gj_iret rfl dX10_size_103 ?_
    exact gR_i (aSize_lo 4 sw1 (by decide)).symm
  · refine gj_tabIn (pc' := 104) (off := 103) dX10_size_1 (by omega) (by omega) (by omega) (by rw [sw1]; rfl) (by decide) ?_
    refine gj_aload_n (pc' := 105) dX10_size_104 rfl rfl ?_
    refine gf_X10_54 (pc' := 108) dX10_size_105 rfl (by first | rfl | assumption) rfl ?_
    rw [hP]
    refine gf_X10_259 (pc' := 111) dX10_size_108 rfl (by first | rfl | assumption) rfl ?_
    refine gf_X10_387 (pc' := 114) dX10_size_111 rfl (by first | rfl | assumption) rfl ?_
    rw [hF.2.2]
    refine gj_iret rfl dX10_size_114 ?_
    exact gR_i (aSize_lo 5 sw1 (by decide)).symm
  · refine gj_tabIn (pc' := 115) (off := 114) dX10_size_1 (by omega) (by omega) (by omega) (by rw [sw1]; rfl) (by decide) ?_
    refine gj_aload_n (pc' := 116) dX10_size_115 rfl rfl ?_
    refine gf_X10_54 (pc' := 119) dX10_size_116 rfl (by first | rfl | assumption) rfl ?_
    rw [hP]
    refine gf_X10_259 (pc' := 122) dX10_size_119 rfl (by first | rfl | assumption) rfl ?_
    refine gf_X10_390 (pc' := 125) dX10_size_122 rfl (by first | rfl | assumption) rfl ?_
    rw [z1]
    refine gj_iret rfl dX10_size_125 ?_
    exact gR_i (aSize_lo 6 sw1 (by decide)).symm
  · refine gj_tabIn (pc' := 126) (off := 125) dX10_size_1 (by omega) (by omega) (by omega) (by rw [sw1]; rfl) (by decide) ?_
    refine gj_aload_n (pc' := 127) dX10_size_126 rfl rfl ?_
    refine gf_X10_19 (pc' := 130) dX10_size_127 rfl (by first | rfl | assumption) rfl ?_
    refine gf_X10_123 (pc' := 133) dX10_size_130 rfl (by first | rfl | assumption) rfl ?_
    rw [z2.1]
    refine gj_iret rfl dX10_size_133 ?_
    exact gR_i (by unfold aSize; repeat' (first | rfl | (exfalso; omega) | split))
  · refine gj_tabIn (pc' := 134) (off := 133) dX10_size_1 (by omega) (by omega) (by omega) (by rw [sw1]; rfl) (by decide) ?_
    refine gj_aload_n (pc' := 135) dX10_size_134 rfl rfl ?_
    refine gf_X10_19 (pc' := 138) dX10_size_135 rfl (by first | rfl | assumption) rfl ?_
    refine gf_X10_393 (pc' := 141) dX10_size_138 rfl (by first | rfl | assumption) rfl ?_
    rw [z2.2]
    refine gj_iret rfl dX10_size_141 ?_
    exact gR_i (by unfold aSize; repeat' (first | rfl | (exfalso; omega) | split))
  · refine gj_tabIn (pc' := 142) (off := 141) dX10_size_1 (by omega) (by omega) (by omega) (by rw [sw1]; rfl) (by decide) ?_
    refine gj_aload_n (pc' := 143) dX10_size_142 rfl rfl ?_
    refine gf_X10_26 (pc' := 146) dX10_size_143 rfl (by first | rfl | assumption) rfl ?_
    refine gf_X10_396 (pc' := 149) dX10_size_146 rfl (by first | rfl | assumption) rfl ?_
    rw [e2]
    refine gj_iret rfl dX10_size_149 ?_
    exact gR_i (by unfold aSize; repeat' (first | rfl | (exfalso; omega) | split))
  · refine gj_tabIn (pc' := 150) (off := 149) dX10_size_1 (by omega) (by omega) (by omega) (by rw [sw1]; rfl) (by decide) ?_
    refine gj_aload_n (pc' := 151) dX10_size_150 rfl rfl ?_
    refine gf_X10_26 (pc' := 154) dX10_size_151 rfl (by first | rfl | assumption) rfl ?_
    refine gf_X10_399 (pc' := 157) dX10_size_154 rfl (by first | rfl | assumption) rfl ?_
    rw [e4]
    refine gj_iret rfl dX10_size_157 ?_
    exact gR_i (by unfold aSize; repeat' (first | rfl | (exfalso; omega) | split))
  · refine gj_tabIn (pc' := 158) (off := 157) dX10_size_1 (by omega) (by omega) (by omega) (by rw [sw1]; rfl) (by decide) ?_
    refine gj_aload_n (pc' := 159) dX10_size_158 rfl rfl ?_
    refine gf_X10_10 (pc' := 162) dX10_size_159 rfl (by first | rfl | assumption) rfl ?_
    refine gf_X10_58 (pc' := 165) dX10_size_162 rfl (by first | rfl | assumption) rfl ?_
    refine gf_X10_62 (pc' := 168) dX10_size_165 rfl (by first | rfl | assumption) rfl ?_
    rw [hp]
    refine gj_iret rfl dX10_size_168 ?_
    exact gR_i (by unfold aSize; repeat' (first | rfl | (exfalso; omega) | split))
  · refine gj_tabOut (pc' := 169) dX10_size_1 (by omega) (Or.inr sw1) (by decide) ?_
    refine gj_iconst (pc' := 170) dX10_size_169 rfl ?_
    refine gj_iret rfl dX10_size_170 ?_
    exact gR_i (by unfold aSize; repeat' (first | rfl | (exfalso; omega) | split))
theorem m_size {h : gH} {tp : Nat} {T : Nat → Nat} {s : gSt} {a : Int} (hX : MST h T s) (hz : T 3 = 0 → T 0 = 0 ∧ T 1 = 0 ∧ T 2 = 0 ∧ T 6 = 0 ∧ s.1 20 = 0 ∧ s.1 21 = 0) (hp : h.1 142 2 = (tp : Int)) (ha : inB a) : gSp 12 yX11_size cX11_size 2 (some .int) [.ref 142, .int (zI a)] h (fun v h' => v = some (.int (zI (aSize T s tp a))) ∧ h' = gui h 142 0 0) := by
  obtain ⟨hQ, hH, hV⟩ := id hX
  have hQ2 : mQ (gui h 142 0 0) T s.1 := hQ
  have hH2 : MH (gui h 142 0 0) s.2.1.1 s.2.1.2 s.2.2.1 s.2.2.2 := hH
  have hp2 : (gui h 142 0 0).1 142 2 = (tp : Int) := hp
  obtain ⟨e20, e21, hn, hm, -, -⟩ := id hH2
  obtain ⟨hA, h14, hB, hC⟩ := id hQ2
  have hv5 := hV.2.2.2.2
  unfold inB at ha
  have h45 : T 3 = 0 → T 4 = 0 ∧ T 5 = 0 := by
    rcases hC with q | q
    · omega
    · have := q.1.2.2.2.1; omega
  refine gSp_of (by decide +kernel) (Nat.le_of_ble_eq_true rfl) ?_
  show gJ RX11 cX11_size 2 (some .int) _ 0 [some (.ref 142), some (.int (zI a))] [] _ _
  refine gj_aload_n (pc' := 1) dX11_size_0 rfl rfl ?_
  refine gj_iconst (pc' := 2) dX11_size_1 rfl ?_
  refine gp_X11_53 (pc' := 5) dX11_size_2 rfl (by first | rfl | assumption) rfl ?_
  refine gj_iload_n (pc' := 6) dX11_size_5 rfl rfl ?_
  refine gj_bipush (pc' := 8) dX11_size_6 rfl (by decide) ?_
  refine gj_icmp_ne (pc' := 11) (tgt := 16) dX11_size_8 (by decide) rfl (by omega) (fun c8 => ?_) (fun c8 => ?_)
  · refine gj_aload_n (pc' := 17) dX11_size_16 rfl rfl ?_
    refine gf_X11_166 (pc' := 20) dX11_size_17 rfl (by first | rfl | assumption) rfl ?_
    rw [h14]
    first | refine gj_ifB_ne (pc' := 23) (tgt := 39) dX11_size_20 (by decide) rfl (fun c20 => ?_) (fun c20 => ?_) | refine gj_if_ne (pc' := 23) (tgt := 39) dX11_size_20 (by decide) rfl (by omega) (fun c20 => ?_) (fun c20 => ?_)
    · first | have g20 := of_decide_eq_true c20 | have g20 := of_decide_eq_false c20 | skip
      refine gj_iload_n (pc' := 40) dX11_size_39 rfl rfl ?_
      refine gj_iconst (pc' := 41) dX11_size_40 rfl ?_
      refine gj_bipush (pc' := 43) dX11_size_41 rfl (by decide) ?_
      refine gr_X11_138 (pc' := 46) dX11_size_43 rfl (m_in ha (by omega) (by omega)) rfl (by decide) rfl (Nat.le_of_ble_eq_true rfl) ?_
      first | refine gj_ifB_eq (pc' := 49) (tgt := 56) dX11_size_46 (by decide) rfl (fun c46 => ?_) (fun c46 => ?_) | refine gj_if_eq (pc' := 49) (tgt := 56) dX11_size_46 (by decide) rfl (by omega) (fun c46 => ?_) (fun c46 => ?_)
      · first | have g46 := of_decide_eq_true c46 | have g46 := of_decide_eq_false c46 | skip
        refine gj_iload_n (pc' := 57) dX11_size_56 rfl rfl ?_
        refine gj_bipush (pc' := 59) dX11_size_57 rfl (by decide) ?_
        refine gj_icmp_ne (pc' := 62) (tgt := 72) dX11_size_59 (by decide) rfl (by omega) (fun c59 => ?_) (fun c59 => ?_)
        · refine gj_iload_n (pc' := 73) dX11_size_72 rfl rfl ?_
          refine gj_bipush (pc' := 75) dX11_size_73 rfl (by decide) ?_
          refine gj_icmp_ne (pc' := 78) (tgt := 88) dX11_size_75 (by decide) rfl (by omega) (fun c75 => ?_) (fun c75 => ?_)
          · refine gj_iload_n (pc' := 89) dX11_size_88 rfl rfl ?_
            refine gj_bipush (pc' := 91) dX11_size_89 rfl (by decide) ?_
            refine gj_icmp_ne (pc' := 94) (tgt := 101) dX11_size_91 (by decide) rfl (by omega) (fun c91 => ?_) (fun c91 => ?_)
            · refine gj_iload_n (pc' := 102) dX11_size_101 rfl rfl ?_
              refine gj_bipush (pc' := 104) dX11_size_102 rfl (by decide) ?_
              refine gj_icmp_ne (pc' := 107) (tgt := 114) dX11_size_104 (by decide) rfl (by omega) (fun c104 => ?_) (fun c104 => ?_)
              · refine gj_iconst (pc' := 115) dX11_size_114 rfl ?_
                refine gj_iret rfl dX11_size_115 ?_
                refine ⟨?_, rfl⟩
                unfold aSize
                rw [if_neg (by omega)]
                repeat' (first | rfl | (exfalso; omega) | split)
              · refine gj_aload_n (pc' := 108) dX11_size_107 rfl rfl ?_
                refine gf_X11_172 (pc' := 111) dX11_size_108 rfl (by first | rfl | assumption) rfl ?_
                rw [e21]
                refine gj_goto (pc' := 115) dX11_size_111 (by decide) ?_
                refine gj_iret rfl dX11_size_115 ?_
                refine ⟨?_, rfl⟩
                unfold aSize
                rw [if_neg (by omega)]
                repeat' (first | rfl | (exfalso; omega) | split)
            · refine gj_aload_n (pc' := 95) dX11_size_94 rfl rfl ?_
              refine gf_X11_169 (pc' := 98) dX11_size_95 rfl (by first | rfl | assumption) rfl ?_
              rw [e20]
              refine gj_goto (pc' := 115) dX11_size_98 (by decide) ?_
              refine gj_iret rfl dX11_size_115 ?_
              refine ⟨?_, rfl⟩
              unfold aSize
              rw [if_neg (by omega)]
              repeat' (first | rfl | (exfalso; omega) | split)
          · refine gj_aload_n (pc' := 79) dX11_size_78 rfl rfl ?_
            refine gf_X11_26 (pc' := 82) dX11_size_79 rfl (by first | rfl | assumption) rfl ?_
            refine gj_bipush (pc' := 84) dX11_size_82 rfl (by decide) ?_
            refine gj_iald (pc' := 85) (j := 21) (by first | rfl | assumption) (by omega) (by omega) (by decide) dX11_size_84 rfl ?_
            rw [hA.2 21 (by omega)]
            refine gj_goto (pc' := 115) dX11_size_85 (by decide) ?_
            refine gj_iret rfl dX11_size_115 ?_
            refine ⟨?_, rfl⟩
            unfold aSize
            rw [if_neg (by omega)]
            repeat' (first | rfl | (exfalso; omega) | split)
        · refine gj_aload_n (pc' := 63) dX11_size_62 rfl rfl ?_
          refine gf_X11_26 (pc' := 66) dX11_size_63 rfl (by first | rfl | assumption) rfl ?_
          refine gj_bipush (pc' := 68) dX11_size_66 rfl (by decide) ?_
          refine gj_iald (pc' := 69) (j := 20) (by first | rfl | assumption) (by omega) (by omega) (by decide) dX11_size_68 rfl ?_
          rw [hA.2 20 (by omega)]
          refine gj_goto (pc' := 115) dX11_size_69 (by decide) ?_
          refine gj_iret rfl dX11_size_115 ?_
          refine ⟨?_, rfl⟩
          unfold aSize
          rw [if_neg (by omega)]
          repeat' (first | rfl | (exfalso; omega) | split)
      · first | have g46 := of_decide_eq_true c46 | have g46 := of_decide_eq_false c46 | skip
        refine gj_aload_n (pc' := 50) dX11_size_49 rfl rfl ?_
        refine gf_X11_20 (pc' := 53) dX11_size_50 rfl (by first | rfl | assumption) rfl ?_
        refine gj_iload_n (pc' := 54) dX11_size_53 rfl rfl ?_
        obtain ⟨n, rfl⟩ : ∃ n : Nat, a = (n : Int) := ⟨a.toNat, by omega⟩
        refine gj_iald (pc' := 55) (by first | rfl | assumption) rfl (by omega) (by decide) dX11_size_54 rfl ?_
        rw [hA.1 n (by omega)]
        refine gj_iret rfl dX11_size_55 ?_
        exact ⟨by unfold aSize; rw [if_pos (by omega), Int.toNat_natCast], rfl⟩
    · first | have g20 := of_decide_eq_true c20 | have g20 := of_decide_eq_false c20 | skip
      refine gj_iload_n (pc' := 24) dX11_size_23 rfl rfl ?_
      refine gj_iconst (pc' := 25) dX11_size_24 rfl ?_
      refine gj_bipush (pc' := 27) dX11_size_25 rfl (by decide) ?_
      refine gr_X11_138 (pc' := 30) dX11_size_27 rfl (m_in ha (by omega) (by omega)) rfl (by decide) rfl (Nat.le_of_ble_eq_true rfl) ?_
      first | refine gj_ifB_eq (pc' := 33) (tgt := 37) dX11_size_30 (by decide) rfl (fun c30 => ?_) (fun c30 => ?_) | refine gj_if_eq (pc' := 33) (tgt := 37) dX11_size_30 (by decide) rfl (by omega) (fun c30 => ?_) (fun c30 => ?_)
      · first | have g30 := of_decide_eq_true c30 | have g30 := of_decide_eq_false c30 | skip
        refine gj_iconst (pc' := 38) dX11_size_37 rfl ?_
        refine gj_iret rfl dX11_size_38 ?_
        have h0 : T 3 = 0 := by omega
        have z := hz h0
        have z2 := h45 h0
        have z3 := hv5 h0
        refine ⟨?_, rfl⟩
        unfold aSize
        by_cases q : 0 ≤ a ∧ a ≤ 6
        · rw [if_pos q]
          obtain ⟨n, rfl⟩ : ∃ n : Nat, a = (n : Int) := ⟨a.toNat, by omega⟩
          rw [Int.toNat_natCast]
          have e : T n = 0 := by
            rcases (show n = 0 ∨ n = 1 ∨ n = 2 ∨ n = 3 ∨ n = 4 ∨ n = 5 ∨ n = 6 by omega) with rfl | rfl | rfl | rfl | rfl | rfl | rfl
            · exact z.1
            · exact z.2.1
            · exact z.2.2.1
            · exact h0
            · exact z2.1
            · exact z2.2
            · exact z.2.2.2.1
          rw [e]
          first
          | (exfalso; omega)
          | rfl
        · rw [if_neg q, z.2.2.2.2.1, z.2.2.2.2.2, z3.1, z3.2]
          repeat' (first | rfl | (exfalso; omega) | split)
      · first | have g30 := of_decide_eq_true c30 | have g30 := of_decide_eq_false c30 | skip
        refine gj_iconst (pc' := 34) dX11_size_33 rfl ?_
        refine gj_goto (pc' := 38) dX11_size_34 (by decide) ?_
        refine gj_iret rfl dX11_size_38 ?_
        have h0 : T 3 = 0 := by omega
        have z := hz h0
        have z2 := h45 h0
        have z3 := hv5 h0
        refine ⟨?_, rfl⟩
        unfold aSize
        by_cases q : 0 ≤ a ∧ a ≤ 6
        · rw [if_pos q]
          obtain ⟨n, rfl⟩ : ∃ n : Nat, a = (n : Int) := ⟨a.toNat, by omega⟩
          rw [Int.toNat_natCast]
          have e : T n = 0 := by
            rcases (show n = 0 ∨ n = 1 ∨ n = 2 ∨ n = 3 ∨ n = 4 ∨ n = 5 ∨ n = 6 by omega) with rfl | rfl | rfl | rfl | rfl | rfl | rfl
            · exact z.1
            · exact z.2.1
            · exact z.2.2.1
            · exact h0
            · exact z2.1
            · exact z2.2
            · exact z.2.2.2.1
          rw [e]
          first
          | (exfalso; omega)
          | rfl
        · rw [if_neg q, z.2.2.2.2.1, z.2.2.2.2.2, z3.1, z3.2]
          repeat' (first | rfl | (exfalso; omega) | split)
  · refine gj_aload_n (pc' := 12) dX11_size_11 rfl rfl ?_
    refine gf_X11_59 (pc' := 15) dX11_size_12 rfl (by first | rfl | assumption) rfl ?_
    rw [hp2]
    refine gj_iret rfl dX11_size_15 ?_
    exact ⟨by rw [show a = 11 by omega]; rfl, rfl⟩
theorem x_trouble {h : gH} : gSp 12 yX10_trouble cX10_trouble 1 (some .int) [.ref 0] h (gR (.int (zI (h.1 0 9))) h) := by
  refine gSp_of (by decide +kernel) (Nat.le_of_ble_eq_true rfl) ?_
  show gJ RX10 cX10_trouble 1 (some .int) _ 0 [some (.ref 0)] [] _ _
  refine gj_aload_n (pc' := 1) dX10_trouble_0 rfl rfl ?_
  refine gf_X10_108 (pc' := 4) dX10_trouble_1 rfl (by first | rfl | assumption) rfl ?_
  refine gj_iret rfl dX10_trouble_4 ?_
  exact ⟨rfl, rfl⟩
theorem m_trouble {h : gH} : gSp 12 yX11_trouble cX11_trouble 1 (some .int) [.ref 142] h (fun v h' => v = some (.int (zI (h.1 142 11))) ∧ h' = gui h 142 0 0) := by
  refine gSp_of (by decide +kernel) (Nat.le_of_ble_eq_true rfl) ?_
  show gJ RX11 cX11_trouble 1 (some .int) _ 0 [some (.ref 142)] [] _ _
  refine gj_aload_n (pc' := 1) dX11_trouble_0 rfl rfl ?_
  refine gj_iconst (pc' := 2) dX11_trouble_1 rfl ?_
  refine gp_X11_53 (pc' := 5) dX11_trouble_2 rfl (by first | rfl | assumption) rfl ?_
  refine gj_aload_n (pc' := 6) dX11_trouble_5 rfl rfl ?_
  refine gf_X11_56 (pc' := 9) dX11_trouble_6 rfl (by first | rfl | assumption) rfl ?_
  refine gj_iret rfl dX11_trouble_9 ?_
  exact ⟨rfl, rfl⟩
theorem x_fault {h : gH} : gSp 12 yX10_fault cX10_fault 1 (some .int) [.ref 0] h (gR (.int (zI (h.1 0 7))) h) := by
  refine gSp_of (by decide +kernel) (Nat.le_of_ble_eq_true rfl) ?_
  show gJ RX10 cX10_fault 1 (some .int) _ 0 [some (.ref 0)] [] _ _
  refine gj_aload_n (pc' := 1) dX10_fault_0 rfl rfl ?_
  refine gf_X10_83 (pc' := 4) dX10_fault_1 rfl (by first | rfl | assumption) rfl ?_
  refine gj_iret rfl dX10_fault_4 ?_
  exact ⟨rfl, rfl⟩
theorem m_fault {h : gH} : gSp 12 yX11_fault cX11_fault 1 (some .int) [.ref 142] h (fun v h' => v = some (.int (zI (h.1 142 9))) ∧ h' = gui h 142 0 0) := by
  refine gSp_of (by decide +kernel) (Nat.le_of_ble_eq_true rfl) ?_
  show gJ RX11 cX11_fault 1 (some .int) _ 0 [some (.ref 142)] [] _ _
  refine gj_aload_n (pc' := 1) dX11_fault_0 rfl rfl ?_
  refine gj_iconst (pc' := 2) dX11_fault_1 rfl ?_
  refine gp_X11_53 (pc' := 5) dX11_fault_2 rfl (by first | rfl | assumption) rfl ?_
  refine gj_aload_n (pc' := 6) dX11_fault_5 rfl rfl ?_
  refine gf_X11_95 (pc' := 9) dX11_fault_6 rfl (by first | rfl | assumption) rfl ?_
  refine gj_iret rfl dX11_fault_9 ?_
  exact ⟨rfl, rfl⟩
theorem x_where {h : gH} {q : Nat} (hb : h.1 0 9 = (q : Int)) (hq : q ≤ 6) : gSp 12 yX10_where cX10_where 1 (some .int) [.ref 0] h (gR (.int (zI (if q = 4 then h.1 0 8 else -1))) h) := by
  refine gSp_of (by decide +kernel) (Nat.le_of_ble_eq_true rfl) ?_
  show gJ RX10 cX10_where 1 (some .int) _ 0 [some (.ref 0)] [] _ _
  refine gj_aload_n (pc' := 1) dX10_where_0 rfl rfl ?_
  refine gf_X10_108 (pc' := 4) dX10_where_1 rfl (by first | rfl | assumption) rfl ?_
  rw [hb]
  refine gj_iconst (pc' := 5) dX10_where_4 rfl ?_
  refine gj_icmp_ne (pc' := 8) (tgt := 15) dX10_where_5 (by decide) rfl (by omega) (fun c5 => ?_) (fun c5 => ?_)
  · refine gj_iconst (pc' := 16) dX10_where_15 rfl ?_
    refine gj_iret rfl dX10_where_16 ?_
    first | (exact gR_i (by rw [if_neg (by omega)])) | (exact gR_i (by rw [if_pos (by omega)]))
  · refine gj_aload_n (pc' := 9) dX10_where_8 rfl rfl ?_
    refine gf_X10_89 (pc' := 12) dX10_where_9 rfl (by first | rfl | assumption) rfl ?_
    refine gj_goto (pc' := 16) dX10_where_12 (by decide) ?_
    refine gj_iret rfl dX10_where_16 ?_
    first | (exact gR_i (by rw [if_neg (by omega)])) | (exact gR_i (by rw [if_pos (by omega)]))
theorem m_where {h : gH} {q : Nat} (hb : h.1 142 11 = (q : Int)) (hq : q ≤ 6) : gSp 12 yX11_where cX11_where 1 (some .int) [.ref 142] h (fun v h' => v = some (.int (zI (if q = 4 then h.1 142 10 else -1))) ∧ h' = gui h 142 0 0) := by
  have hb2 : (gui h 142 0 0).1 142 11 = (q : Int) := hb
  refine gSp_of (by decide +kernel) (Nat.le_of_ble_eq_true rfl) ?_
  show gJ RX11 cX11_where 1 (some .int) _ 0 [some (.ref 142)] [] _ _
  refine gj_aload_n (pc' := 1) dX11_where_0 rfl rfl ?_
  refine gj_iconst (pc' := 2) dX11_where_1 rfl ?_
  refine gp_X11_53 (pc' := 5) dX11_where_2 rfl (by first | rfl | assumption) rfl ?_
  refine gj_aload_n (pc' := 6) dX11_where_5 rfl rfl ?_
  refine gf_X11_56 (pc' := 9) dX11_where_6 rfl (by first | rfl | assumption) rfl ?_
  rw [hb2]
  refine gj_iconst (pc' := 10) dX11_where_9 rfl ?_
  refine gj_icmp_ne (pc' := 13) (tgt := 20) dX11_where_10 (by decide) rfl (by omega) (fun c10 => ?_) (fun c10 => ?_)
  · refine gj_iconst (pc' := 21) dX11_where_20 rfl ?_
    refine gj_iret rfl dX11_where_21 ?_
    first | (exact ⟨by rw [if_neg (by omega)], rfl⟩) | (exact ⟨by rw [if_pos (by omega)]; rfl, rfl⟩)
  · refine gj_aload_n (pc' := 14) dX11_where_13 rfl rfl ?_
    refine gf_X11_13 (pc' := 17) dX11_where_14 rfl (by first | rfl | assumption) rfl ?_
    refine gj_goto (pc' := 21) dX11_where_17 (by decide) ?_
    refine gj_iret rfl dX11_where_21 ?_
    first | (exact ⟨by rw [if_neg (by omega)], rfl⟩) | (exact ⟨by rw [if_pos (by omega)]; rfl, rfl⟩)
