/-! the face of GrudgeLoft: questions -/
theorem x_house {h : gH} {t : Nat} {T S : Nat → Nat} {a b : Int} (hQ : XQ h t T S) (ha : inB a) (hb : inB b) : gSp 12 yX10_house cX10_house 3 (some .int) [.ref 0, .int (zI a), .int (zI b)] h (qX (aHouse T S a b).1 (aHouse T S a b).2 h) := by
  obtain ⟨ht, hP, hF, hZ, -⟩ := id hQ
  obtain ⟨s0, s1, s2, s3, s4, s5, s6, s7, s8, s9, s10⟩ := shT ht
  have ha2 := ha; unfold inB at ha2
  have hb2 := hb; unfold inB at hb2
  refine gSp_of (by decide +kernel) (Nat.le_of_ble_eq_true rfl) ?_
  show gJ RX10 cX10_house 3 (some .int) _ 0 [some (.ref 0), some (.int (zI a)), some (.int (zI b))] [] _ _
  refine gj_aload_n (pc' := 1) dX10_house_0 rfl rfl ?_
  refine gj_iload_n (pc' := 2) dX10_house_1 rfl rfl ?_
  refine gr_X10_111 (pc' := 5) dX10_house_2 rfl (x_isHouse hQ ha) rfl (by first | rfl | assumption) (by decide) rfl (Nat.le_of_ble_eq_true rfl) ?_
  first | refine gj_ifB_ne (pc' := 8) (tgt := 14) dX10_house_5 (by decide) rfl (fun c5 => ?_) (fun c5 => ?_) | refine gj_if_ne (pc' := 8) (tgt := 14) dX10_house_5 (by decide) rfl (by omega) (fun c5 => ?_) (fun c5 => ?_)
  · first | have g5 := of_decide_eq_true c5 | have g5 := of_decide_eq_false c5 | skip
    obtain ⟨n, rfl⟩ : ∃ n : Nat, a = (n : Int) := ⟨a.toNat, by omega⟩
    have hI := hQ.ci (by omega)
    obtain ⟨-, -, hT, hS, hA, hB, hN⟩ := id hI
    refine gj_iload_n (pc' := 15) dX10_house_14 rfl rfl ?_
    rcases (show b < 0 ∨ b = 0 ∨ b = 1 ∨ b = 2 ∨ b = 3 ∨ b = 4 ∨ 4 < b by omega) with sw15 | sw15 | sw15 | sw15 | sw15 | sw15 | sw15
    · refine gj_tabOut (pc' := 131) dX10_house_15 (by omega) (Or.inl sw15) (by decide) ?_
      refine gj_aload_n (pc' := 132) dX10_house_131 rfl rfl ?_
      refine gj_iconst (pc' := 133) dX10_house_132 rfl ?_
      refine gc_X10_72 (pc' := 136) dX10_house_133 rfl (x_refuse) rfl (by first | rfl | assumption) (by decide) rfl (Nat.le_of_ble_eq_true rfl) (fun v9 h9 q9 => ?_)
      obtain ⟨rfl, q9a, q9b⟩ := q9
      show gJ _ _ _ _ _ _ _ (.int (zI (-1)) :: _) _ _
      refine gj_iret rfl dX10_house_136 ?_
      exact qX_i (by unfold aHouse; (try simp only [Int.toNat_natCast]); repeat' (first | (exfalso; omega) | split | rfl | simp_all)) q9a q9b
    · refine gj_tabIn (pc' := 48) (off := 33) dX10_house_15 (by omega) (by omega) (by omega) (by rw [sw15]; rfl) (by decide) ?_
      refine gj_aload_n (pc' := 49) dX10_house_48 rfl rfl ?_
      refine gj_aload_n (pc' := 50) dX10_house_49 rfl rfl ?_
      refine gf_X10_54 (pc' := 53) dX10_house_50 rfl (by first | rfl | assumption) rfl ?_
      rw [hP]
      refine gf_X10_114 (pc' := 56) dX10_house_53 rfl (by first | rfl | assumption) rfl ?_
      refine gj_iload_n (pc' := 57) dX10_house_56 rfl rfl ?_
      refine gj_iald (pc' := 58) (by first | rfl | assumption) rfl (by omega) (by decide) dX10_house_57 rfl ?_
      rw [(hA.2.1 n (by omega)).1]
      refine gc_X10_105 (pc' := 61) dX10_house_58 rfl (x_grant) rfl (by first | rfl | assumption) (by decide) rfl (Nat.le_of_ble_eq_true rfl) (fun v9 h9 q9 => ?_)
      obtain ⟨rfl, q9a, q9b⟩ := q9
      show gJ _ _ _ _ _ _ _ (.int (zI _) :: _) _ _
      refine gj_iret rfl dX10_house_61 ?_
      exact qX_i (by unfold aHouse; (try simp only [Int.toNat_natCast]); repeat' (first | (exfalso; omega) | split | rfl | simp_all)) q9a q9b
    · refine gj_tabIn (pc' := 62) (off := 47) dX10_house_15 (by omega) (by omega) (by omega) (by rw [sw15]; rfl) (by decide) ?_
      refine gj_aload_n (pc' := 63) dX10_house_62 rfl rfl ?_
      refine gj_aload_n (pc' := 64) dX10_house_63 rfl rfl ?_
      refine gf_X10_19 (pc' := 67) dX10_house_64 rfl (by first | rfl | assumption) rfl ?_
      refine gf_X10_117 (pc' := 70) dX10_house_67 rfl (by first | rfl | assumption) rfl ?_
      refine gj_iload_n (pc' := 71) dX10_house_70 rfl rfl ?_
      refine gj_iald (pc' := 72) (by first | rfl | assumption) rfl (by omega) (by decide) dX10_house_71 rfl ?_
      rw [(hN.2.2.2.1 n (by omega)).1]
      refine gc_X10_105 (pc' := 75) dX10_house_72 rfl (x_grant) rfl (by first | rfl | assumption) (by decide) rfl (Nat.le_of_ble_eq_true rfl) (fun v9 h9 q9 => ?_)
      obtain ⟨rfl, q9a, q9b⟩ := q9
      show gJ _ _ _ _ _ _ _ (.int (zI _) :: _) _ _
      refine gj_iret rfl dX10_house_75 ?_
      exact qX_i (by unfold aHouse; (try simp only [Int.toNat_natCast]); repeat' (first | (exfalso; omega) | split | rfl | simp_all)) q9a q9b
    · refine gj_tabIn (pc' := 76) (off := 61) dX10_house_15 (by omega) (by omega) (by omega) (by rw [sw15]; rfl) (by decide) ?_
      refine gj_aload_n (pc' := 77) dX10_house_76 rfl rfl ?_
      refine gj_aload_n (pc' := 78) dX10_house_77 rfl rfl ?_
      refine gf_X10_19 (pc' := 81) dX10_house_78 rfl (by first | rfl | assumption) rfl ?_
      refine gf_X10_120 (pc' := 84) dX10_house_81 rfl (by first | rfl | assumption) rfl ?_
      refine gj_iload_n (pc' := 85) dX10_house_84 rfl rfl ?_
      refine gj_iald (pc' := 86) (by first | rfl | assumption) rfl (by omega) (by decide) dX10_house_85 rfl ?_
      rw [(hN.2.2.2.1 n (by omega)).2]
      refine gc_X10_105 (pc' := 89) dX10_house_86 rfl (x_grant) rfl (by first | rfl | assumption) (by decide) rfl (Nat.le_of_ble_eq_true rfl) (fun v9 h9 q9 => ?_)
      obtain ⟨rfl, q9a, q9b⟩ := q9
      show gJ _ _ _ _ _ _ _ (.int (zI _) :: _) _ _
      refine gj_iret rfl dX10_house_89 ?_
      exact qX_i (by unfold aHouse; (try simp only [Int.toNat_natCast]); repeat' (first | (exfalso; omega) | split | rfl | simp_all)) q9a q9b
    · refine gj_tabIn (pc' := 90) (off := 75) dX10_house_15 (by omega) (by omega) (by omega) (by rw [sw15]; rfl) (by decide) ?_
      refine gj_aload_n (pc' := 91) dX10_house_90 rfl rfl ?_
      refine gj_aload_n (pc' := 92) dX10_house_91 rfl rfl ?_
      refine gf_X10_19 (pc' := 95) dX10_house_92 rfl (by first | rfl | assumption) rfl ?_
      refine gj_aload_n (pc' := 96) dX10_house_95 rfl rfl ?_
      refine gf_X10_54 (pc' := 99) dX10_house_96 rfl (by first | rfl | assumption) rfl ?_
      rw [hP]
      refine gj_iload_n (pc' := 100) dX10_house_99 rfl rfl ?_
      refine gj_aload_n (pc' := 101) dX10_house_100 rfl rfl ?_
      refine gf_X10_19 (pc' := 104) dX10_house_101 rfl (by first | rfl | assumption) rfl ?_
      refine gf_X10_123 (pc' := 107) dX10_house_104 rfl (by first | rfl | assumption) rfl ?_
      rw [hN.1]
      refine gr_X10_126 (pc' := 110) dX10_house_107 rfl (s_sitters hI (by omega) (by have := hS.2.2.1; omega)) rfl (by first | rfl | assumption) (by decide) rfl (Nat.le_of_ble_eq_true rfl) ?_
      refine gc_X10_105 (pc' := 113) dX10_house_110 rfl (x_grant) rfl (by first | rfl | assumption) (by decide) rfl (Nat.le_of_ble_eq_true rfl) (fun v9 h9 q9 => ?_)
      obtain ⟨rfl, q9a, q9b⟩ := q9
      show gJ _ _ _ _ _ _ _ (.int (zI _) :: _) _ _
      refine gj_iret rfl dX10_house_113 ?_
      exact qX_i (by unfold aHouse; (try simp only [Int.toNat_natCast]); repeat' (first | (exfalso; omega) | split | rfl | simp_all)) q9a q9b
    · refine gj_tabIn (pc' := 114) (off := 99) dX10_house_15 (by omega) (by omega) (by omega) (by rw [sw15]; rfl) (by decide) ?_
      refine gj_aload_n (pc' := 115) dX10_house_114 rfl rfl ?_
      refine gj_aload_n (pc' := 116) dX10_house_115 rfl rfl ?_
      refine gf_X10_19 (pc' := 119) dX10_house_116 rfl (by first | rfl | assumption) rfl ?_
      refine gj_aload_n (pc' := 120) dX10_house_119 rfl rfl ?_
      refine gf_X10_54 (pc' := 123) dX10_house_120 rfl (by first | rfl | assumption) rfl ?_
      rw [hP]
      refine gj_iload_n (pc' := 124) dX10_house_123 rfl rfl ?_
      refine gr_X10_130 (pc' := 127) dX10_house_124 rfl (s_birdsFor hI (by omega)) rfl (by first | rfl | assumption) (by decide) rfl (Nat.le_of_ble_eq_true rfl) ?_
      refine gc_X10_105 (pc' := 130) dX10_house_127 rfl (x_grant) rfl (by first | rfl | assumption) (by decide) rfl (Nat.le_of_ble_eq_true rfl) (fun v9 h9 q9 => ?_)
      obtain ⟨rfl, q9a, q9b⟩ := q9
      show gJ _ _ _ _ _ _ _ (.int (zI _) :: _) _ _
      refine gj_iret rfl dX10_house_130 ?_
      exact qX_i (by unfold aHouse; (try simp only [Int.toNat_natCast]); repeat' (first | (exfalso; omega) | split | rfl | simp_all)) q9a q9b
    · refine gj_tabOut (pc' := 131) dX10_house_15 (by omega) (Or.inr sw15) (by decide) ?_
      refine gj_aload_n (pc' := 132) dX10_house_131 rfl rfl ?_
      refine gj_iconst (pc' := 133) dX10_house_132 rfl ?_
      refine gc_X10_72 (pc' := 136) dX10_house_133 rfl (x_refuse) rfl (by first | rfl | assumption) (by decide) rfl (Nat.le_of_ble_eq_true rfl) (fun v9 h9 q9 => ?_)
      obtain ⟨rfl, q9a, q9b⟩ := q9
      show gJ _ _ _ _ _ _ _ (.int (zI (-1)) :: _) _ _
      refine gj_iret rfl dX10_house_136 ?_
      exact qX_i (by unfold aHouse; (try simp only [Int.toNat_natCast]); repeat' (first | (exfalso; omega) | split | rfl | simp_all)) q9a q9b
  · first | have g5 := of_decide_eq_true c5 | have g5 := of_decide_eq_false c5 | skip
    refine gj_aload_n (pc' := 9) dX10_house_8 rfl rfl ?_
    refine gj_iconst (pc' := 10) dX10_house_9 rfl ?_
    refine gc_X10_72 (pc' := 13) dX10_house_10 rfl (x_refuse) rfl (by first | rfl | assumption) (by decide) rfl (Nat.le_of_ble_eq_true rfl) (fun v9 h9 q9 => ?_)
    obtain ⟨rfl, q9a, q9b⟩ := q9
    show gJ _ _ _ _ _ _ _ (.int (zI (-1)) :: _) _ _
    refine gj_iret rfl dX10_house_13 ?_
    exact qX_i (by unfold aHouse; (try simp only [Int.toNat_natCast]); repeat' (first | (exfalso; omega) | split | rfl | simp_all)) q9a q9b
theorem x_bird {h : gH} {t : Nat} {T S : Nat → Nat} {a b : Int} (hQ : XQ h t T S) (ha : inB a) (hb : inB b) : gSp 12 yX10_bird cX10_bird 3 (some .int) [.ref 0, .int (zI a), .int (zI b)] h (qX (aBird T S a b).1 (aBird T S a b).2 h) := by
  obtain ⟨ht, hP, hF, hZ, -⟩ := id hQ
  obtain ⟨s0, s1, s2, s3, s4, s5, s6, s7, s8, s9, s10⟩ := shT ht
  have ha2 := ha; unfold inB at ha2
  have hb2 := hb; unfold inB at hb2
  refine gSp_of (by decide +kernel) (Nat.le_of_ble_eq_true rfl) ?_
  show gJ RX10 cX10_bird 3 (some .int) _ 0 [some (.ref 0), some (.int (zI a)), some (.int (zI b))] [] _ _
  refine gj_aload_n (pc' := 1) dX10_bird_0 rfl rfl ?_
  refine gj_iload_n (pc' := 2) dX10_bird_1 rfl rfl ?_
  refine gr_X10_134 (pc' := 5) dX10_bird_2 rfl (x_isBird hQ ha) rfl (by first | rfl | assumption) (by decide) rfl (Nat.le_of_ble_eq_true rfl) ?_
  first | refine gj_ifB_ne (pc' := 8) (tgt := 14) dX10_bird_5 (by decide) rfl (fun c5 => ?_) (fun c5 => ?_) | refine gj_if_ne (pc' := 8) (tgt := 14) dX10_bird_5 (by decide) rfl (by omega) (fun c5 => ?_) (fun c5 => ?_)
  · first | have g5 := of_decide_eq_true c5 | have g5 := of_decide_eq_false c5 | skip
    obtain ⟨n, rfl⟩ : ∃ n : Nat, a = (n : Int) := ⟨a.toNat, by omega⟩
    have hI := hQ.ci (by omega)
    obtain ⟨-, -, hT, hS, hA, hB, hN⟩ := id hI
    refine gj_iload_n (pc' := 15) dX10_bird_14 rfl rfl ?_
    rcases (show b < 0 ∨ b = 0 ∨ b = 1 ∨ b = 2 ∨ b = 3 ∨ b = 4 ∨ b = 5 ∨ b = 6 ∨ b = 7 ∨ 7 < b by omega) with sw15 | sw15 | sw15 | sw15 | sw15 | sw15 | sw15 | sw15 | sw15 | sw15
    · refine gj_tabOut (pc' := 185) dX10_bird_15 (by omega) (Or.inl sw15) (by decide) ?_
      refine gj_aload_n (pc' := 186) dX10_bird_185 rfl rfl ?_
      refine gj_iconst (pc' := 187) dX10_bird_186 rfl ?_
      refine gc_X10_72 (pc' := 190) dX10_bird_187 rfl (x_refuse) rfl (by first | rfl | assumption) (by decide) rfl (Nat.le_of_ble_eq_true rfl) (fun v9 h9 q9 => ?_)
      obtain ⟨rfl, q9a, q9b⟩ := q9
      show gJ _ _ _ _ _ _ _ (.int (zI (-1)) :: _) _ _
      refine gj_iret rfl dX10_bird_190 ?_
      exact qX_i (by unfold aBird; (try simp only [Int.toNat_natCast]); repeat' (first | (exfalso; omega) | split | rfl | simp_all)) q9a q9b
    · refine gj_tabIn (pc' := 60) (off := 45) dX10_bird_15 (by omega) (by omega) (by omega) (by rw [sw15]; rfl) (by decide) ?_
      refine gj_aload_n (pc' := 61) dX10_bird_60 rfl rfl ?_
      refine gj_aload_n (pc' := 62) dX10_bird_61 rfl rfl ?_
      refine gf_X10_54 (pc' := 65) dX10_bird_62 rfl (by first | rfl | assumption) rfl ?_
      rw [hP]
      refine gf_X10_137 (pc' := 68) dX10_bird_65 rfl (by first | rfl | assumption) rfl ?_
      refine gj_iload_n (pc' := 69) dX10_bird_68 rfl rfl ?_
      refine gj_iald (pc' := 70) (by first | rfl | assumption) rfl (by omega) (by decide) dX10_bird_69 rfl ?_
      rw [(hA.2.2 n (by omega)).1]
      refine gc_X10_105 (pc' := 73) dX10_bird_70 rfl (x_grant) rfl (by first | rfl | assumption) (by decide) rfl (Nat.le_of_ble_eq_true rfl) (fun v9 h9 q9 => ?_)
      obtain ⟨rfl, q9a, q9b⟩ := q9
      show gJ _ _ _ _ _ _ _ (.int (zI _) :: _) _ _
      refine gj_iret rfl dX10_bird_73 ?_
      exact qX_i (by unfold aBird; (try simp only [Int.toNat_natCast]); repeat' (first | (exfalso; omega) | split | rfl | simp_all)) q9a q9b
    · refine gj_tabIn (pc' := 74) (off := 59) dX10_bird_15 (by omega) (by omega) (by omega) (by rw [sw15]; rfl) (by decide) ?_
      refine gj_aload_n (pc' := 75) dX10_bird_74 rfl rfl ?_
      refine gj_aload_n (pc' := 76) dX10_bird_75 rfl rfl ?_
      refine gf_X10_54 (pc' := 79) dX10_bird_76 rfl (by first | rfl | assumption) rfl ?_
      rw [hP]
      refine gf_X10_140 (pc' := 82) dX10_bird_79 rfl (by first | rfl | assumption) rfl ?_
      refine gj_iload_n (pc' := 83) dX10_bird_82 rfl rfl ?_
      refine gj_iald (pc' := 84) (by first | rfl | assumption) rfl (by omega) (by decide) dX10_bird_83 rfl ?_
      rw [(hA.2.2 n (by omega)).2.1]
      refine gc_X10_105 (pc' := 87) dX10_bird_84 rfl (x_grant) rfl (by first | rfl | assumption) (by decide) rfl (Nat.le_of_ble_eq_true rfl) (fun v9 h9 q9 => ?_)
      obtain ⟨rfl, q9a, q9b⟩ := q9
      show gJ _ _ _ _ _ _ _ (.int (zI _) :: _) _ _
      refine gj_iret rfl dX10_bird_87 ?_
      exact qX_i (by unfold aBird; (try simp only [Int.toNat_natCast]); repeat' (first | (exfalso; omega) | split | rfl | simp_all)) q9a q9b
    · refine gj_tabIn (pc' := 88) (off := 73) dX10_bird_15 (by omega) (by omega) (by omega) (by rw [sw15]; rfl) (by decide) ?_
      refine gj_aload_n (pc' := 89) dX10_bird_88 rfl rfl ?_
      refine gj_aload_n (pc' := 90) dX10_bird_89 rfl rfl ?_
      refine gf_X10_54 (pc' := 93) dX10_bird_90 rfl (by first | rfl | assumption) rfl ?_
      rw [hP]
      refine gf_X10_143 (pc' := 96) dX10_bird_93 rfl (by first | rfl | assumption) rfl ?_
      refine gj_iload_n (pc' := 97) dX10_bird_96 rfl rfl ?_
      refine gj_iald (pc' := 98) (by first | rfl | assumption) rfl (by omega) (by decide) dX10_bird_97 rfl ?_
      rw [(hA.2.2 n (by omega)).2.2.1]
      refine gc_X10_105 (pc' := 101) dX10_bird_98 rfl (x_grant) rfl (by first | rfl | assumption) (by decide) rfl (Nat.le_of_ble_eq_true rfl) (fun v9 h9 q9 => ?_)
      obtain ⟨rfl, q9a, q9b⟩ := q9
      show gJ _ _ _ _ _ _ _ (.int (zI _) :: _) _ _
      refine gj_iret rfl dX10_bird_101 ?_
      exact qX_i (by unfold aBird; (try simp only [Int.toNat_natCast]); repeat' (first | (exfalso; omega) | split | rfl | simp_all)) q9a q9b
    · refine gj_tabIn (pc' := 102) (off := 87) dX10_bird_15 (by omega) (by omega) (by omega) (by rw [sw15]; rfl) (by decide) ?_
      refine gj_aload_n (pc' := 103) dX10_bird_102 rfl rfl ?_
      refine gj_aload_n (pc' := 104) dX10_bird_103 rfl rfl ?_
      refine gf_X10_54 (pc' := 107) dX10_bird_104 rfl (by first | rfl | assumption) rfl ?_
      rw [hP]
      refine gf_X10_146 (pc' := 110) dX10_bird_107 rfl (by first | rfl | assumption) rfl ?_
      refine gj_iload_n (pc' := 111) dX10_bird_110 rfl rfl ?_
      refine gj_iald (pc' := 112) (by first | rfl | assumption) rfl (by omega) (by decide) dX10_bird_111 rfl ?_
      rw [(hB n (by omega)).1]
      refine gc_X10_105 (pc' := 115) dX10_bird_112 rfl (x_grant) rfl (by first | rfl | assumption) (by decide) rfl (Nat.le_of_ble_eq_true rfl) (fun v9 h9 q9 => ?_)
      obtain ⟨rfl, q9a, q9b⟩ := q9
      show gJ _ _ _ _ _ _ _ (.int (zI _) :: _) _ _
      refine gj_iret rfl dX10_bird_115 ?_
      exact qX_i (by unfold aBird; (try simp only [Int.toNat_natCast]); repeat' (first | (exfalso; omega) | split | rfl | simp_all)) q9a q9b
    · refine gj_tabIn (pc' := 116) (off := 101) dX10_bird_15 (by omega) (by omega) (by omega) (by rw [sw15]; rfl) (by decide) ?_
      refine gj_aload_n (pc' := 117) dX10_bird_116 rfl rfl ?_
      refine gj_aload_n (pc' := 118) dX10_bird_117 rfl rfl ?_
      refine gf_X10_54 (pc' := 121) dX10_bird_118 rfl (by first | rfl | assumption) rfl ?_
      rw [hP]
      refine gf_X10_149 (pc' := 124) dX10_bird_121 rfl (by first | rfl | assumption) rfl ?_
      refine gj_iload_n (pc' := 125) dX10_bird_124 rfl rfl ?_
      refine gj_iald (pc' := 126) (by first | rfl | assumption) rfl (by omega) (by decide) dX10_bird_125 rfl ?_
      rw [(hB n (by omega)).2]
      refine gc_X10_105 (pc' := 129) dX10_bird_126 rfl (x_grant) rfl (by first | rfl | assumption) (by decide) rfl (Nat.le_of_ble_eq_true rfl) (fun v9 h9 q9 => ?_)
      obtain ⟨rfl, q9a, q9b⟩ := q9
      show gJ _ _ _ _ _ _ _ (.int (zI _) :: _) _ _
      refine gj_iret rfl dX10_bird_129 ?_
      exact qX_i (by unfold aBird; (try simp only [Int.toNat_natCast]); repeat' (first | (exfalso; omega) | split | rfl | simp_all)) q9a q9b
    · refine gj_tabIn (pc' := 130) (off := 115) dX10_bird_15 (by omega) (by omega) (by omega) (by rw [sw15]; rfl) (by decide) ?_
      refine gj_aload_n (pc' := 131) dX10_bird_130 rfl rfl ?_
      refine gj_aload_n (pc' := 132) dX10_bird_131 rfl rfl ?_
      refine gf_X10_54 (pc' := 135) dX10_bird_132 rfl (by first | rfl | assumption) rfl ?_
      rw [hP]
      refine gf_X10_152 (pc' := 138) dX10_bird_135 rfl (by first | rfl | assumption) rfl ?_
      refine gj_iload_n (pc' := 139) dX10_bird_138 rfl rfl ?_
      refine gj_iald (pc' := 140) (by first | rfl | assumption) rfl (by omega) (by decide) dX10_bird_139 rfl ?_
      rw [(hA.2.2 n (by omega)).2.2.2.2]
      refine gc_X10_105 (pc' := 143) dX10_bird_140 rfl (x_grant) rfl (by first | rfl | assumption) (by decide) rfl (Nat.le_of_ble_eq_true rfl) (fun v9 h9 q9 => ?_)
      obtain ⟨rfl, q9a, q9b⟩ := q9
      show gJ _ _ _ _ _ _ _ (.int (zI _) :: _) _ _
      refine gj_iret rfl dX10_bird_143 ?_
      exact qX_i (by unfold aBird; (try simp only [Int.toNat_natCast]); repeat' (first | (exfalso; omega) | split | rfl | simp_all)) q9a q9b
    · refine gj_tabIn (pc' := 144) (off := 129) dX10_bird_15 (by omega) (by omega) (by omega) (by rw [sw15]; rfl) (by decide) ?_
      refine gj_aload_n (pc' := 145) dX10_bird_144 rfl rfl ?_
      refine gj_aload_n (pc' := 146) dX10_bird_145 rfl rfl ?_
      refine gf_X10_19 (pc' := 149) dX10_bird_146 rfl (by first | rfl | assumption) rfl ?_
      refine gj_aload_n (pc' := 150) dX10_bird_149 rfl rfl ?_
      refine gf_X10_54 (pc' := 153) dX10_bird_150 rfl (by first | rfl | assumption) rfl ?_
      rw [hP]
      refine gj_iload_n (pc' := 154) dX10_bird_153 rfl rfl ?_
      refine gr_X10_155 (pc' := 157) dX10_bird_154 rfl (s_lacking hI (by omega)) rfl (by first | rfl | assumption) (by decide) rfl (Nat.le_of_ble_eq_true rfl) ?_
      refine gc_X10_105 (pc' := 160) dX10_bird_157 rfl (x_grant) rfl (by first | rfl | assumption) (by decide) rfl (Nat.le_of_ble_eq_true rfl) (fun v9 h9 q9 => ?_)
      obtain ⟨rfl, q9a, q9b⟩ := q9
      show gJ _ _ _ _ _ _ _ (.int (zI _) :: _) _ _
      refine gj_iret rfl dX10_bird_160 ?_
      exact qX_i (by unfold aBird; (try simp only [Int.toNat_natCast]); repeat' (first | (exfalso; omega) | split | rfl | simp_all)) q9a q9b
    · refine gj_tabIn (pc' := 161) (off := 146) dX10_bird_15 (by omega) (by omega) (by omega) (by rw [sw15]; rfl) (by decide) ?_
      refine gj_aload_n (pc' := 162) dX10_bird_161 rfl rfl ?_
      refine gj_aload_n (pc' := 163) dX10_bird_162 rfl rfl ?_
      refine gf_X10_19 (pc' := 166) dX10_bird_163 rfl (by first | rfl | assumption) rfl ?_
      refine gj_aload_n (pc' := 167) dX10_bird_166 rfl rfl ?_
      refine gf_X10_54 (pc' := 170) dX10_bird_167 rfl (by first | rfl | assumption) rfl ?_
      rw [hP]
      refine gj_iload_n (pc' := 171) dX10_bird_170 rfl rfl ?_
      refine gj_aload_n (pc' := 172) dX10_bird_171 rfl rfl ?_
      refine gf_X10_19 (pc' := 175) dX10_bird_172 rfl (by first | rfl | assumption) rfl ?_
      refine gf_X10_123 (pc' := 178) dX10_bird_175 rfl (by first | rfl | assumption) rfl ?_
      rw [hN.1]
      refine gr_X10_158 (pc' := 181) dX10_bird_178 rfl (s_stateOn hI (by omega) (by have := hS.2.2.1; omega)) rfl (by first | rfl | assumption) (by decide) rfl (Nat.le_of_ble_eq_true rfl) ?_
      refine gc_X10_105 (pc' := 184) dX10_bird_181 rfl (x_grant) rfl (by first | rfl | assumption) (by decide) rfl (Nat.le_of_ble_eq_true rfl) (fun v9 h9 q9 => ?_)
      obtain ⟨rfl, q9a, q9b⟩ := q9
      show gJ _ _ _ _ _ _ _ (.int (zI _) :: _) _ _
      refine gj_iret rfl dX10_bird_184 ?_
      exact qX_i (by unfold aBird; (try simp only [Int.toNat_natCast]); repeat' (first | (exfalso; omega) | split | rfl | simp_all)) q9a q9b
    · refine gj_tabOut (pc' := 185) dX10_bird_15 (by omega) (Or.inr sw15) (by decide) ?_
      refine gj_aload_n (pc' := 186) dX10_bird_185 rfl rfl ?_
      refine gj_iconst (pc' := 187) dX10_bird_186 rfl ?_
      refine gc_X10_72 (pc' := 190) dX10_bird_187 rfl (x_refuse) rfl (by first | rfl | assumption) (by decide) rfl (Nat.le_of_ble_eq_true rfl) (fun v9 h9 q9 => ?_)
      obtain ⟨rfl, q9a, q9b⟩ := q9
      show gJ _ _ _ _ _ _ _ (.int (zI (-1)) :: _) _ _
      refine gj_iret rfl dX10_bird_190 ?_
      exact qX_i (by unfold aBird; (try simp only [Int.toNat_natCast]); repeat' (first | (exfalso; omega) | split | rfl | simp_all)) q9a q9b
  · first | have g5 := of_decide_eq_true c5 | have g5 := of_decide_eq_false c5 | skip
    refine gj_aload_n (pc' := 9) dX10_bird_8 rfl rfl ?_
    refine gj_iconst (pc' := 10) dX10_bird_9 rfl ?_
    refine gc_X10_72 (pc' := 13) dX10_bird_10 rfl (x_refuse) rfl (by first | rfl | assumption) (by decide) rfl (Nat.le_of_ble_eq_true rfl) (fun v9 h9 q9 => ?_)
    obtain ⟨rfl, q9a, q9b⟩ := q9
    show gJ _ _ _ _ _ _ _ (.int (zI (-1)) :: _) _ _
    refine gj_iret rfl dX10_bird_13 ?_
    exact qX_i (by unfold aBird; (try simp only [Int.toNat_natCast]); repeat' (first | (exfalso; omega) | split | rfl | simp_all)) q9a q9b
theorem x_apart {h : gH} {t : Nat} {T S : Nat → Nat} {a b : Int} (hQ : XQ h t T S) (ha : inB a) (hb : inB b) : gSp 12 yX10_apart cX10_apart 3 (some .int) [.ref 0, .int (zI a), .int (zI b)] h (qX (aApart T a b).1 (aApart T a b).2 h) := by
  obtain ⟨ht, hP, hF, hZ, -⟩ := id hQ
  obtain ⟨s0, s1, s2, s3, s4, s5, s6, s7, s8, s9, s10⟩ := shT ht
  have ha2 := ha; unfold inB at ha2
  have hb2 := hb; unfold inB at hb2
  refine gSp_of (by decide +kernel) (Nat.le_of_ble_eq_true rfl) ?_
  show gJ RX10 cX10_apart 3 (some .int) _ 0 [some (.ref 0), some (.int (zI a)), some (.int (zI b))] [] _ _
  refine gj_aload_n (pc' := 1) dX10_apart_0 rfl rfl ?_
  refine gj_iload_n (pc' := 2) dX10_apart_1 rfl rfl ?_
  refine gj_iload_n (pc' := 3) dX10_apart_2 rfl rfl ?_
  refine gr_X10_161 (pc' := 6) dX10_apart_3 rfl (x_areTwoHouses hQ ha hb) rfl (by first | rfl | assumption) (by decide) rfl (Nat.le_of_ble_eq_true rfl) ?_
  first | refine gj_ifB_ne (pc' := 9) (tgt := 15) dX10_apart_6 (by decide) rfl (fun c6 => ?_) (fun c6 => ?_) | refine gj_if_ne (pc' := 9) (tgt := 15) dX10_apart_6 (by decide) rfl (by omega) (fun c6 => ?_) (fun c6 => ?_)
  · first | have g6 := of_decide_eq_true c6 | have g6 := of_decide_eq_false c6 | skip
    obtain ⟨n, rfl⟩ : ∃ n : Nat, a = (n : Int) := ⟨a.toNat, by omega⟩
    have hI := hQ.ci (by omega)
    obtain ⟨-, -, hT, hS, hA, hB, hN⟩ := id hI
    obtain ⟨m, rfl⟩ : ∃ m : Nat, b = (m : Int) := ⟨b.toNat, by omega⟩
    refine gj_aload_n (pc' := 16) dX10_apart_15 rfl rfl ?_
    refine gj_aload_n (pc' := 17) dX10_apart_16 rfl rfl ?_
    refine gf_X10_54 (pc' := 20) dX10_apart_17 rfl (by first | rfl | assumption) rfl ?_
    rw [hP]
    refine gj_iload_n (pc' := 21) dX10_apart_20 rfl rfl ?_
    refine gj_iload_n (pc' := 22) dX10_apart_21 rfl rfl ?_
    refine gr_X10_165 (pc' := 25) dX10_apart_22 rfl (s_daysApart ht hT hA (by omega) (by omega)) rfl (by first | rfl | assumption) (by decide) rfl (Nat.le_of_ble_eq_true rfl) ?_
    refine gc_X10_105 (pc' := 28) dX10_apart_25 rfl (x_grant) rfl (by first | rfl | assumption) (by decide) rfl (Nat.le_of_ble_eq_true rfl) (fun v9 h9 q9 => ?_)
    obtain ⟨rfl, q9a, q9b⟩ := q9
    show gJ _ _ _ _ _ _ _ (.int (zI _) :: _) _ _
    refine gj_iret rfl dX10_apart_28 ?_
    exact qX_i (by unfold aApart; (try simp only [Int.toNat_natCast]); repeat' (first | (exfalso; omega) | split | rfl | simp_all)) q9a q9b
  · first | have g6 := of_decide_eq_true c6 | have g6 := of_decide_eq_false c6 | skip
    refine gj_aload_n (pc' := 10) dX10_apart_9 rfl rfl ?_
    refine gj_iconst (pc' := 11) dX10_apart_10 rfl ?_
    refine gc_X10_72 (pc' := 14) dX10_apart_11 rfl (x_refuse) rfl (by first | rfl | assumption) (by decide) rfl (Nat.le_of_ble_eq_true rfl) (fun v9 h9 q9 => ?_)
    obtain ⟨rfl, q9a, q9b⟩ := q9
    show gJ _ _ _ _ _ _ _ (.int (zI (-1)) :: _) _ _
    refine gj_iret rfl dX10_apart_14 ?_
    exact qX_i (by unfold aApart; (try simp only [Int.toNat_natCast]); repeat' (first | (exfalso; omega) | split | rfl | simp_all)) q9a q9b
theorem x_birds {h : gH} {t : Nat} {T S : Nat → Nat} (hQ : XQ h t T S) : gSp 12 yX10_birds cX10_birds 1 (some .int) [.ref 0] h (qX (aTown T (nPr T S : Nat)).1 (aTown T (nPr T S : Nat)).2 h) := by
  obtain ⟨ht, hP, hF, hZ, -⟩ := id hQ
  obtain ⟨s0, s1, s2, s3, s4, s5, s6, s7, s8, s9, s10⟩ := shT ht
  refine gSp_of (by decide +kernel) (Nat.le_of_ble_eq_true rfl) ?_
  show gJ RX10 cX10_birds 1 (some .int) _ 0 [some (.ref 0)] [] _ _
  refine gj_aload_n (pc' := 1) dX10_birds_0 rfl rfl ?_
  refine gr_X10_169 (pc' := 4) dX10_birds_1 rfl (x_hasTown hQ) rfl (by first | rfl | assumption) (by decide) rfl (Nat.le_of_ble_eq_true rfl) ?_
  first | refine gj_ifB_eq (pc' := 7) (tgt := 25) dX10_birds_4 (by decide) rfl (fun c4 => ?_) (fun c4 => ?_) | refine gj_if_eq (pc' := 7) (tgt := 25) dX10_birds_4 (by decide) rfl (by omega) (fun c4 => ?_) (fun c4 => ?_)
  · first | have g4 := of_decide_eq_true c4 | have g4 := of_decide_eq_false c4 | skip
    refine gj_aload_n (pc' := 26) dX10_birds_25 rfl rfl ?_
    refine gj_iconst (pc' := 27) dX10_birds_26 rfl ?_
    refine gc_X10_72 (pc' := 30) dX10_birds_27 rfl (x_refuse) rfl (by first | rfl | assumption) (by decide) rfl (Nat.le_of_ble_eq_true rfl) (fun v9 h9 q9 => ?_)
    obtain ⟨rfl, q9a, q9b⟩ := q9
    show gJ _ _ _ _ _ _ _ (.int (zI (-1)) :: _) _ _
    refine gj_iret rfl dX10_birds_30 ?_
    exact qX_i (by unfold aTown; (try simp only [Int.toNat_natCast]); repeat' (first | (exfalso; omega) | split | rfl | simp_all)) q9a q9b
  · first | have g4 := of_decide_eq_true c4 | have g4 := of_decide_eq_false c4 | skip
    have hI := hQ.ci (by omega)
    obtain ⟨-, -, hT, hS, hA, hB, hN⟩ := id hI
    refine gj_aload_n (pc' := 8) dX10_birds_7 rfl rfl ?_
    refine gj_aload_n (pc' := 9) dX10_birds_8 rfl rfl ?_
    refine gf_X10_19 (pc' := 12) dX10_birds_9 rfl (by first | rfl | assumption) rfl ?_
    refine gj_aload_n (pc' := 13) dX10_birds_12 rfl rfl ?_
    refine gf_X10_54 (pc' := 16) dX10_birds_13 rfl (by first | rfl | assumption) rfl ?_
    rw [hP]
    refine gr_X10_173 (pc' := 19) dX10_birds_16 rfl (s_present hI) rfl (by first | rfl | assumption) (by decide) rfl (Nat.le_of_ble_eq_true rfl) ?_
    refine gc_X10_105 (pc' := 22) dX10_birds_19 rfl (x_grant) rfl (by first | rfl | assumption) (by decide) rfl (Nat.le_of_ble_eq_true rfl) (fun v9 h9 q9 => ?_)
    obtain ⟨rfl, q9a, q9b⟩ := q9
    show gJ _ _ _ _ _ _ _ (.int (zI _) :: _) _ _
    refine gj_goto (pc' := 30) dX10_birds_22 (by decide) ?_
    refine gj_iret rfl dX10_birds_30 ?_
    exact qX_i (by unfold aTown; (try simp only [Int.toNat_natCast]); repeat' (first | (exfalso; omega) | split | rfl | simp_all)) q9a q9b
theorem x_fullest {h : gH} {t : Nat} {T S : Nat → Nat} (hQ : XQ h t T S) : gSp 12 yX10_fullest cX10_fullest 1 (some .int) [.ref 0] h (qX (aTown T (aMax (fun k => sMany T S k (S 20)) (T 3) : Nat)).1 (aTown T (aMax (fun k => sMany T S k (S 20)) (T 3) : Nat)).2 h) := by
  obtain ⟨ht, hP, hF, hZ, -⟩ := id hQ
  obtain ⟨s0, s1, s2, s3, s4, s5, s6, s7, s8, s9, s10⟩ := shT ht
  refine gSp_of (by decide +kernel) (Nat.le_of_ble_eq_true rfl) ?_
  show gJ RX10 cX10_fullest 1 (some .int) _ 0 [some (.ref 0)] [] _ _
  refine gj_aload_n (pc' := 1) dX10_fullest_0 rfl rfl ?_
  refine gr_X10_169 (pc' := 4) dX10_fullest_1 rfl (x_hasTown hQ) rfl (by first | rfl | assumption) (by decide) rfl (Nat.le_of_ble_eq_true rfl) ?_
  first | refine gj_ifB_eq (pc' := 7) (tgt := 25) dX10_fullest_4 (by decide) rfl (fun c4 => ?_) (fun c4 => ?_) | refine gj_if_eq (pc' := 7) (tgt := 25) dX10_fullest_4 (by decide) rfl (by omega) (fun c4 => ?_) (fun c4 => ?_)
  · first | have g4 := of_decide_eq_true c4 | have g4 := of_decide_eq_false c4 | skip
    refine gj_aload_n (pc' := 26) dX10_fullest_25 rfl rfl ?_
    refine gj_iconst (pc' := 27) dX10_fullest_26 rfl ?_
    refine gc_X10_72 (pc' := 30) dX10_fullest_27 rfl (x_refuse) rfl (by first | rfl | assumption) (by decide) rfl (Nat.le_of_ble_eq_true rfl) (fun v9 h9 q9 => ?_)
    obtain ⟨rfl, q9a, q9b⟩ := q9
    show gJ _ _ _ _ _ _ _ (.int (zI (-1)) :: _) _ _
    refine gj_iret rfl dX10_fullest_30 ?_
    exact qX_i (by unfold aTown; (try simp only [Int.toNat_natCast]); repeat' (first | (exfalso; omega) | split | rfl | simp_all)) q9a q9b
  · first | have g4 := of_decide_eq_true c4 | have g4 := of_decide_eq_false c4 | skip
    have hI := hQ.ci (by omega)
    obtain ⟨-, -, hT, hS, hA, hB, hN⟩ := id hI
    refine gj_aload_n (pc' := 8) dX10_fullest_7 rfl rfl ?_
    refine gj_aload_n (pc' := 9) dX10_fullest_8 rfl rfl ?_
    refine gf_X10_19 (pc' := 12) dX10_fullest_9 rfl (by first | rfl | assumption) rfl ?_
    refine gj_aload_n (pc' := 13) dX10_fullest_12 rfl rfl ?_
    refine gf_X10_54 (pc' := 16) dX10_fullest_13 rfl (by first | rfl | assumption) rfl ?_
    rw [hP]
    refine gr_X10_177 (pc' := 19) dX10_fullest_16 rfl (s_fullest hI) rfl (by first | rfl | assumption) (by decide) rfl (Nat.le_of_ble_eq_true rfl) ?_
    refine gc_X10_105 (pc' := 22) dX10_fullest_19 rfl (x_grant) rfl (by first | rfl | assumption) (by decide) rfl (Nat.le_of_ble_eq_true rfl) (fun v9 h9 q9 => ?_)
    obtain ⟨rfl, q9a, q9b⟩ := q9
    show gJ _ _ _ _ _ _ _ (.int (zI _) :: _) _ _
    refine gj_goto (pc' := 30) dX10_fullest_22 (by decide) ?_
    refine gj_iret rfl dX10_fullest_30 ?_
    exact qX_i (by unfold aTown; (try simp only [Int.toNat_natCast]); repeat' (first | (exfalso; omega) | split | rfl | simp_all)) q9a q9b
theorem x_clean {h : gH} {t : Nat} {T S : Nat → Nat} (hQ : XQ h t T S) : gSp 12 yX10_clean cX10_clean 1 (some .int) [.ref 0] h (qX (aTown T (bN (fun k => sAg T S k == 0) (T 3) : Nat)).1 (aTown T (bN (fun k => sAg T S k == 0) (T 3) : Nat)).2 h) := by
  obtain ⟨ht, hP, hF, hZ, -⟩ := id hQ
  obtain ⟨s0, s1, s2, s3, s4, s5, s6, s7, s8, s9, s10⟩ := shT ht
  refine gSp_of (by decide +kernel) (Nat.le_of_ble_eq_true rfl) ?_
  show gJ RX10 cX10_clean 1 (some .int) _ 0 [some (.ref 0)] [] _ _
  refine gj_aload_n (pc' := 1) dX10_clean_0 rfl rfl ?_
  refine gr_X10_169 (pc' := 4) dX10_clean_1 rfl (x_hasTown hQ) rfl (by first | rfl | assumption) (by decide) rfl (Nat.le_of_ble_eq_true rfl) ?_
  first | refine gj_ifB_eq (pc' := 7) (tgt := 25) dX10_clean_4 (by decide) rfl (fun c4 => ?_) (fun c4 => ?_) | refine gj_if_eq (pc' := 7) (tgt := 25) dX10_clean_4 (by decide) rfl (by omega) (fun c4 => ?_) (fun c4 => ?_)
  · first | have g4 := of_decide_eq_true c4 | have g4 := of_decide_eq_false c4 | skip
    refine gj_aload_n (pc' := 26) dX10_clean_25 rfl rfl ?_
    refine gj_iconst (pc' := 27) dX10_clean_26 rfl ?_
    refine gc_X10_72 (pc' := 30) dX10_clean_27 rfl (x_refuse) rfl (by first | rfl | assumption) (by decide) rfl (Nat.le_of_ble_eq_true rfl) (fun v9 h9 q9 => ?_)
    obtain ⟨rfl, q9a, q9b⟩ := q9
    show gJ _ _ _ _ _ _ _ (.int (zI (-1)) :: _) _ _
    refine gj_iret rfl dX10_clean_30 ?_
    exact qX_i (by unfold aTown; (try simp only [Int.toNat_natCast]); repeat' (first | (exfalso; omega) | split | rfl | simp_all)) q9a q9b
  · first | have g4 := of_decide_eq_true c4 | have g4 := of_decide_eq_false c4 | skip
    have hI := hQ.ci (by omega)
    obtain ⟨-, -, hT, hS, hA, hB, hN⟩ := id hI
    refine gj_aload_n (pc' := 8) dX10_clean_7 rfl rfl ?_
    refine gj_aload_n (pc' := 9) dX10_clean_8 rfl rfl ?_
    refine gf_X10_19 (pc' := 12) dX10_clean_9 rfl (by first | rfl | assumption) rfl ?_
    refine gj_aload_n (pc' := 13) dX10_clean_12 rfl rfl ?_
    refine gf_X10_54 (pc' := 16) dX10_clean_13 rfl (by first | rfl | assumption) rfl ?_
    rw [hP]
    refine gr_X10_180 (pc' := 19) dX10_clean_16 rfl (s_clean hI) rfl (by first | rfl | assumption) (by decide) rfl (Nat.le_of_ble_eq_true rfl) ?_
    refine gc_X10_105 (pc' := 22) dX10_clean_19 rfl (x_grant) rfl (by first | rfl | assumption) (by decide) rfl (Nat.le_of_ble_eq_true rfl) (fun v9 h9 q9 => ?_)
    obtain ⟨rfl, q9a, q9b⟩ := q9
    show gJ _ _ _ _ _ _ _ (.int (zI _) :: _) _ _
    refine gj_goto (pc' := 30) dX10_clean_22 (by decide) ?_
    refine gj_iret rfl dX10_clean_30 ?_
    exact qX_i (by unfold aTown; (try simp only [Int.toNat_natCast]); repeat' (first | (exfalso; omega) | split | rfl | simp_all)) q9a q9b
theorem x_whereIn {h : gH} {t : Nat} {T S : Nat → Nat} {a b : Int} (hQ : XQ h t T S) (ha : inB a) (hb : inB b) : gSp 12 yX10_whereIn cX10_whereIn 3 (some .int) [.ref 0, .int (zI a), .int (zI b)] h (qX (aBiN T a b (fun n m => (sWh T S n (S 20 + m) : Int)) 60).1 (aBiN T a b (fun n m => (sWh T S n (S 20 + m) : Int)) 60).2 h) := by
  obtain ⟨ht, hP, hF, hZ, -⟩ := id hQ
  obtain ⟨s0, s1, s2, s3, s4, s5, s6, s7, s8, s9, s10⟩ := shT ht
  have ha2 := ha; unfold inB at ha2
  have hb2 := hb; unfold inB at hb2
  refine gSp_of (by decide +kernel) (Nat.le_of_ble_eq_true rfl) ?_
  show gJ RX10 cX10_whereIn 3 (some .int) _ 0 [some (.ref 0), some (.int (zI a)), some (.int (zI b))] [] _ _
  refine gj_aload_n (pc' := 1) dX10_whereIn_0 rfl rfl ?_
  refine gj_iload_n (pc' := 2) dX10_whereIn_1 rfl rfl ?_
  refine gr_X10_134 (pc' := 5) dX10_whereIn_2 rfl (x_isBird hQ ha) rfl (by first | rfl | assumption) (by decide) rfl (Nat.le_of_ble_eq_true rfl) ?_
  first | refine gj_ifB_ne (pc' := 8) (tgt := 14) dX10_whereIn_5 (by decide) rfl (fun c5 => ?_) (fun c5 => ?_) | refine gj_if_ne (pc' := 8) (tgt := 14) dX10_whereIn_5 (by decide) rfl (by omega) (fun c5 => ?_) (fun c5 => ?_)
  · first | have g5 := of_decide_eq_true c5 | have g5 := of_decide_eq_false c5 | skip
    refine gj_iload_n (pc' := 15) dX10_whereIn_14 rfl rfl ?_
    refine gj_iconst (pc' := 16) dX10_whereIn_15 rfl ?_
    refine gj_bipush (pc' := 18) dX10_whereIn_16 rfl (by decide) ?_
    refine gr_X10_183 (pc' := 21) dX10_whereIn_18 rfl (x_isWithin hb (by unfold inB; omega) (by unfold inB; omega)) rfl (by decide) rfl (Nat.le_of_ble_eq_true rfl) ?_
    first | refine gj_ifB_ne (pc' := 24) (tgt := 30) dX10_whereIn_21 (by decide) rfl (fun c21 => ?_) (fun c21 => ?_) | refine gj_if_ne (pc' := 24) (tgt := 30) dX10_whereIn_21 (by decide) rfl (by omega) (fun c21 => ?_) (fun c21 => ?_)
    · first | have g21 := of_decide_eq_true c21 | have g21 := of_decide_eq_false c21 | skip
      obtain ⟨n, rfl⟩ : ∃ n : Nat, a = (n : Int) := ⟨a.toNat, by omega⟩
      have hI := hQ.ci (by omega)
      obtain ⟨-, -, hT, hS, hA, hB, hN⟩ := id hI
      obtain ⟨m, rfl⟩ : ∃ m : Nat, b = (m : Int) := ⟨b.toNat, by omega⟩
      refine gj_aload_n (pc' := 31) dX10_whereIn_30 rfl rfl ?_
      refine gj_aload_n (pc' := 32) dX10_whereIn_31 rfl rfl ?_
      refine gf_X10_19 (pc' := 35) dX10_whereIn_32 rfl (by first | rfl | assumption) rfl ?_
      refine gj_aload_n (pc' := 36) dX10_whereIn_35 rfl rfl ?_
      refine gf_X10_54 (pc' := 39) dX10_whereIn_36 rfl (by first | rfl | assumption) rfl ?_
      rw [hP]
      refine gj_iload_n (pc' := 40) dX10_whereIn_39 rfl rfl ?_
      refine gj_aload_n (pc' := 41) dX10_whereIn_40 rfl rfl ?_
      refine gf_X10_19 (pc' := 44) dX10_whereIn_41 rfl (by first | rfl | assumption) rfl ?_
      refine gf_X10_123 (pc' := 47) dX10_whereIn_44 rfl (by first | rfl | assumption) rfl ?_
      rw [hN.1]
      refine gj_iload_n (pc' := 48) dX10_whereIn_47 rfl rfl ?_
      refine gj_iadd (pc' := 49) dX10_whereIn_48 rfl ?_
      rw [show ((S 20 : Int) + (m : Int)) = ((S 20 + m : Nat) : Int) by omega]
      refine gr_X10_158 (pc' := 52) dX10_whereIn_49 rfl (s_stateOn hI (by omega) (by have := hS.2.2.1; omega)) rfl (by first | rfl | assumption) (by decide) rfl (Nat.le_of_ble_eq_true rfl) ?_
      refine gc_X10_105 (pc' := 55) dX10_whereIn_52 rfl (x_grant) rfl (by first | rfl | assumption) (by decide) rfl (Nat.le_of_ble_eq_true rfl) (fun v9 h9 q9 => ?_)
      obtain ⟨rfl, q9a, q9b⟩ := q9
      show gJ _ _ _ _ _ _ _ (.int (zI _) :: _) _ _
      refine gj_iret rfl dX10_whereIn_55 ?_
      exact qX_i (by unfold aBiN; (try simp only [Int.toNat_natCast]); repeat' (first | (exfalso; omega) | split | rfl | simp_all)) q9a q9b
    · first | have g21 := of_decide_eq_true c21 | have g21 := of_decide_eq_false c21 | skip
      refine gj_aload_n (pc' := 25) dX10_whereIn_24 rfl rfl ?_
      refine gj_iconst (pc' := 26) dX10_whereIn_25 rfl ?_
      refine gc_X10_72 (pc' := 29) dX10_whereIn_26 rfl (x_refuse) rfl (by first | rfl | assumption) (by decide) rfl (Nat.le_of_ble_eq_true rfl) (fun v9 h9 q9 => ?_)
      obtain ⟨rfl, q9a, q9b⟩ := q9
      show gJ _ _ _ _ _ _ _ (.int (zI (-1)) :: _) _ _
      refine gj_iret rfl dX10_whereIn_29 ?_
      exact qX_i (by unfold aBiN; (try simp only [Int.toNat_natCast]); repeat' (first | (exfalso; omega) | split | rfl | simp_all)) q9a q9b
  · first | have g5 := of_decide_eq_true c5 | have g5 := of_decide_eq_false c5 | skip
    refine gj_aload_n (pc' := 9) dX10_whereIn_8 rfl rfl ?_
    refine gj_iconst (pc' := 10) dX10_whereIn_9 rfl ?_
    refine gc_X10_72 (pc' := 13) dX10_whereIn_10 rfl (x_refuse) rfl (by first | rfl | assumption) (by decide) rfl (Nat.le_of_ble_eq_true rfl) (fun v9 h9 q9 => ?_)
    obtain ⟨rfl, q9a, q9b⟩ := q9
    show gJ _ _ _ _ _ _ _ (.int (zI (-1)) :: _) _ _
    refine gj_iret rfl dX10_whereIn_13 ?_
    exact qX_i (by unfold aBiN; (try simp only [Int.toNat_natCast]); repeat' (first | (exfalso; omega) | split | rfl | simp_all)) q9a q9b
theorem x_sitIn {h : gH} {t : Nat} {T S : Nat → Nat} {a b : Int} (hQ : XQ h t T S) (ha : inB a) (hb : inB b) : gSp 12 yX10_sitIn cX10_sitIn 3 (some .int) [.ref 0, .int (zI a), .int (zI b)] h (qX (aHoN T a b (fun n m => (sMany T S n (S 20 + m) : Int)) 60).1 (aHoN T a b (fun n m => (sMany T S n (S 20 + m) : Int)) 60).2 h) := by
  obtain ⟨ht, hP, hF, hZ, -⟩ := id hQ
  obtain ⟨s0, s1, s2, s3, s4, s5, s6, s7, s8, s9, s10⟩ := shT ht
  have ha2 := ha; unfold inB at ha2
  have hb2 := hb; unfold inB at hb2
  refine gSp_of (by decide +kernel) (Nat.le_of_ble_eq_true rfl) ?_
  show gJ RX10 cX10_sitIn 3 (some .int) _ 0 [some (.ref 0), some (.int (zI a)), some (.int (zI b))] [] _ _
  refine gj_aload_n (pc' := 1) dX10_sitIn_0 rfl rfl ?_
  refine gj_iload_n (pc' := 2) dX10_sitIn_1 rfl rfl ?_
  refine gr_X10_111 (pc' := 5) dX10_sitIn_2 rfl (x_isHouse hQ ha) rfl (by first | rfl | assumption) (by decide) rfl (Nat.le_of_ble_eq_true rfl) ?_
  first | refine gj_ifB_ne (pc' := 8) (tgt := 14) dX10_sitIn_5 (by decide) rfl (fun c5 => ?_) (fun c5 => ?_) | refine gj_if_ne (pc' := 8) (tgt := 14) dX10_sitIn_5 (by decide) rfl (by omega) (fun c5 => ?_) (fun c5 => ?_)
  · first | have g5 := of_decide_eq_true c5 | have g5 := of_decide_eq_false c5 | skip
    refine gj_iload_n (pc' := 15) dX10_sitIn_14 rfl rfl ?_
    refine gj_iconst (pc' := 16) dX10_sitIn_15 rfl ?_
    refine gj_bipush (pc' := 18) dX10_sitIn_16 rfl (by decide) ?_
    refine gr_X10_183 (pc' := 21) dX10_sitIn_18 rfl (x_isWithin hb (by unfold inB; omega) (by unfold inB; omega)) rfl (by decide) rfl (Nat.le_of_ble_eq_true rfl) ?_
    first | refine gj_ifB_ne (pc' := 24) (tgt := 30) dX10_sitIn_21 (by decide) rfl (fun c21 => ?_) (fun c21 => ?_) | refine gj_if_ne (pc' := 24) (tgt := 30) dX10_sitIn_21 (by decide) rfl (by omega) (fun c21 => ?_) (fun c21 => ?_)
    · first | have g21 := of_decide_eq_true c21 | have g21 := of_decide_eq_false c21 | skip
      obtain ⟨n, rfl⟩ : ∃ n : Nat, a = (n : Int) := ⟨a.toNat, by omega⟩
      have hI := hQ.ci (by omega)
      obtain ⟨-, -, hT, hS, hA, hB, hN⟩ := id hI
      obtain ⟨m, rfl⟩ : ∃ m : Nat, b = (m : Int) := ⟨b.toNat, by omega⟩
      refine gj_aload_n (pc' := 31) dX10_sitIn_30 rfl rfl ?_
      refine gj_aload_n (pc' := 32) dX10_sitIn_31 rfl rfl ?_
      refine gf_X10_19 (pc' := 35) dX10_sitIn_32 rfl (by first | rfl | assumption) rfl ?_
      refine gj_aload_n (pc' := 36) dX10_sitIn_35 rfl rfl ?_
      refine gf_X10_54 (pc' := 39) dX10_sitIn_36 rfl (by first | rfl | assumption) rfl ?_
      rw [hP]
      refine gj_iload_n (pc' := 40) dX10_sitIn_39 rfl rfl ?_
      refine gj_aload_n (pc' := 41) dX10_sitIn_40 rfl rfl ?_
      refine gf_X10_19 (pc' := 44) dX10_sitIn_41 rfl (by first | rfl | assumption) rfl ?_
      refine gf_X10_123 (pc' := 47) dX10_sitIn_44 rfl (by first | rfl | assumption) rfl ?_
      rw [hN.1]
      refine gj_iload_n (pc' := 48) dX10_sitIn_47 rfl rfl ?_
      refine gj_iadd (pc' := 49) dX10_sitIn_48 rfl ?_
      rw [show ((S 20 : Int) + (m : Int)) = ((S 20 + m : Nat) : Int) by omega]
      refine gr_X10_126 (pc' := 52) dX10_sitIn_49 rfl (s_sitters hI (by omega) (by have := hS.2.2.1; omega)) rfl (by first | rfl | assumption) (by decide) rfl (Nat.le_of_ble_eq_true rfl) ?_
      refine gr_X10_187 (pc' := 55) dX10_sitIn_52 rfl (s_bitCount (pc_lt hZ.2.1)) rfl (by decide) rfl (Nat.le_of_ble_eq_true rfl) ?_
      refine gc_X10_105 (pc' := 58) dX10_sitIn_55 rfl (x_grant) rfl (by first | rfl | assumption) (by decide) rfl (Nat.le_of_ble_eq_true rfl) (fun v9 h9 q9 => ?_)
      obtain ⟨rfl, q9a, q9b⟩ := q9
      show gJ _ _ _ _ _ _ _ (.int (zI _) :: _) _ _
      refine gj_iret rfl dX10_sitIn_58 ?_
      exact qX_i (by unfold aHoN; (try simp only [Int.toNat_natCast]); repeat' (first | (exfalso; omega) | split | rfl | simp_all)) q9a q9b
    · first | have g21 := of_decide_eq_true c21 | have g21 := of_decide_eq_false c21 | skip
      refine gj_aload_n (pc' := 25) dX10_sitIn_24 rfl rfl ?_
      refine gj_iconst (pc' := 26) dX10_sitIn_25 rfl ?_
      refine gc_X10_72 (pc' := 29) dX10_sitIn_26 rfl (x_refuse) rfl (by first | rfl | assumption) (by decide) rfl (Nat.le_of_ble_eq_true rfl) (fun v9 h9 q9 => ?_)
      obtain ⟨rfl, q9a, q9b⟩ := q9
      show gJ _ _ _ _ _ _ _ (.int (zI (-1)) :: _) _ _
      refine gj_iret rfl dX10_sitIn_29 ?_
      exact qX_i (by unfold aHoN; (try simp only [Int.toNat_natCast]); repeat' (first | (exfalso; omega) | split | rfl | simp_all)) q9a q9b
  · first | have g5 := of_decide_eq_true c5 | have g5 := of_decide_eq_false c5 | skip
    refine gj_aload_n (pc' := 9) dX10_sitIn_8 rfl rfl ?_
    refine gj_iconst (pc' := 10) dX10_sitIn_9 rfl ?_
    refine gc_X10_72 (pc' := 13) dX10_sitIn_10 rfl (x_refuse) rfl (by first | rfl | assumption) (by decide) rfl (Nat.le_of_ble_eq_true rfl) (fun v9 h9 q9 => ?_)
    obtain ⟨rfl, q9a, q9b⟩ := q9
    show gJ _ _ _ _ _ _ _ (.int (zI (-1)) :: _) _ _
    refine gj_iret rfl dX10_sitIn_13 ?_
    exact qX_i (by unfold aHoN; (try simp only [Int.toNat_natCast]); repeat' (first | (exfalso; omega) | split | rfl | simp_all)) q9a q9b
theorem x_whiteIn {h : gH} {t : Nat} {T S : Nat → Nat} {a b : Int} (hQ : XQ h t T S) (ha : inB a) (hb : inB b) : gSp 12 yX10_whiteIn cX10_whiteIn 3 (some .int) [.ref 0, .int (zI a), .int (zI b)] h (qX (aHoN T a b (fun n m => (sWi T S n m : Int)) 60).1 (aHoN T a b (fun n m => (sWi T S n m : Int)) 60).2 h) := by
  obtain ⟨ht, hP, hF, hZ, -⟩ := id hQ
  obtain ⟨s0, s1, s2, s3, s4, s5, s6, s7, s8, s9, s10⟩ := shT ht
  have ha2 := ha; unfold inB at ha2
  have hb2 := hb; unfold inB at hb2
  refine gSp_of (by decide +kernel) (Nat.le_of_ble_eq_true rfl) ?_
  show gJ RX10 cX10_whiteIn 3 (some .int) _ 0 [some (.ref 0), some (.int (zI a)), some (.int (zI b))] [] _ _
  refine gj_aload_n (pc' := 1) dX10_whiteIn_0 rfl rfl ?_
  refine gj_iload_n (pc' := 2) dX10_whiteIn_1 rfl rfl ?_
  refine gr_X10_111 (pc' := 5) dX10_whiteIn_2 rfl (x_isHouse hQ ha) rfl (by first | rfl | assumption) (by decide) rfl (Nat.le_of_ble_eq_true rfl) ?_
  first | refine gj_ifB_ne (pc' := 8) (tgt := 14) dX10_whiteIn_5 (by decide) rfl (fun c5 => ?_) (fun c5 => ?_) | refine gj_if_ne (pc' := 8) (tgt := 14) dX10_whiteIn_5 (by decide) rfl (by omega) (fun c5 => ?_) (fun c5 => ?_)
  · first | have g5 := of_decide_eq_true c5 | have g5 := of_decide_eq_false c5 | skip
    refine gj_iload_n (pc' := 15) dX10_whiteIn_14 rfl rfl ?_
    refine gj_iconst (pc' := 16) dX10_whiteIn_15 rfl ?_
    refine gj_bipush (pc' := 18) dX10_whiteIn_16 rfl (by decide) ?_
    refine gr_X10_183 (pc' := 21) dX10_whiteIn_18 rfl (x_isWithin hb (by unfold inB; omega) (by unfold inB; omega)) rfl (by decide) rfl (Nat.le_of_ble_eq_true rfl) ?_
    first | refine gj_ifB_ne (pc' := 24) (tgt := 30) dX10_whiteIn_21 (by decide) rfl (fun c21 => ?_) (fun c21 => ?_) | refine gj_if_ne (pc' := 24) (tgt := 30) dX10_whiteIn_21 (by decide) rfl (by omega) (fun c21 => ?_) (fun c21 => ?_)
    · first | have g21 := of_decide_eq_true c21 | have g21 := of_decide_eq_false c21 | skip
      obtain ⟨n, rfl⟩ : ∃ n : Nat, a = (n : Int) := ⟨a.toNat, by omega⟩
      have hI := hQ.ci (by omega)
      obtain ⟨-, -, hT, hS, hA, hB, hN⟩ := id hI
      obtain ⟨m, rfl⟩ : ∃ m : Nat, b = (m : Int) := ⟨b.toNat, by omega⟩
      refine gj_aload_n (pc' := 31) dX10_whiteIn_30 rfl rfl ?_
      refine gj_aload_n (pc' := 32) dX10_whiteIn_31 rfl rfl ?_
      refine gf_X10_19 (pc' := 35) dX10_whiteIn_32 rfl (by first | rfl | assumption) rfl ?_
      refine gj_aload_n (pc' := 36) dX10_whiteIn_35 rfl rfl ?_
      refine gf_X10_54 (pc' := 39) dX10_whiteIn_36 rfl (by first | rfl | assumption) rfl ?_
      rw [hP]
      refine gj_iload_n (pc' := 40) dX10_whiteIn_39 rfl rfl ?_
      refine gj_iload_n (pc' := 41) dX10_whiteIn_40 rfl rfl ?_
      refine gr_X10_192 (pc' := 44) dX10_whiteIn_41 rfl (s_white hI (by omega) (by omega)) rfl (by first | rfl | assumption) (by decide) rfl (Nat.le_of_ble_eq_true rfl) ?_
      refine gc_X10_105 (pc' := 47) dX10_whiteIn_44 rfl (x_grant) rfl (by first | rfl | assumption) (by decide) rfl (Nat.le_of_ble_eq_true rfl) (fun v9 h9 q9 => ?_)
      obtain ⟨rfl, q9a, q9b⟩ := q9
      show gJ _ _ _ _ _ _ _ (.int (zI _) :: _) _ _
      refine gj_iret rfl dX10_whiteIn_47 ?_
      exact qX_i (by unfold aHoN; (try simp only [Int.toNat_natCast]); repeat' (first | (exfalso; omega) | split | rfl | simp_all)) q9a q9b
    · first | have g21 := of_decide_eq_true c21 | have g21 := of_decide_eq_false c21 | skip
      refine gj_aload_n (pc' := 25) dX10_whiteIn_24 rfl rfl ?_
      refine gj_iconst (pc' := 26) dX10_whiteIn_25 rfl ?_
      refine gc_X10_72 (pc' := 29) dX10_whiteIn_26 rfl (x_refuse) rfl (by first | rfl | assumption) (by decide) rfl (Nat.le_of_ble_eq_true rfl) (fun v9 h9 q9 => ?_)
      obtain ⟨rfl, q9a, q9b⟩ := q9
      show gJ _ _ _ _ _ _ _ (.int (zI (-1)) :: _) _ _
      refine gj_iret rfl dX10_whiteIn_29 ?_
      exact qX_i (by unfold aHoN; (try simp only [Int.toNat_natCast]); repeat' (first | (exfalso; omega) | split | rfl | simp_all)) q9a q9b
  · first | have g5 := of_decide_eq_true c5 | have g5 := of_decide_eq_false c5 | skip
    refine gj_aload_n (pc' := 9) dX10_whiteIn_8 rfl rfl ?_
    refine gj_iconst (pc' := 10) dX10_whiteIn_9 rfl ?_
    refine gc_X10_72 (pc' := 13) dX10_whiteIn_10 rfl (x_refuse) rfl (by first | rfl | assumption) (by decide) rfl (Nat.le_of_ble_eq_true rfl) (fun v9 h9 q9 => ?_)
    obtain ⟨rfl, q9a, q9b⟩ := q9
    show gJ _ _ _ _ _ _ _ (.int (zI (-1)) :: _) _ _
    refine gj_iret rfl dX10_whiteIn_13 ?_
    exact qX_i (by unfold aHoN; (try simp only [Int.toNat_natCast]); repeat' (first | (exfalso; omega) | split | rfl | simp_all)) q9a q9b
theorem x_sitsIn {h : gH} {t : Nat} {T S : Nat → Nat} {a : Int} (hQ : XQ h t T S) (ha : inB a) : gSp 12 yX10_sitsIn cX10_sitsIn 2 (some .int) [.ref 0, .int (zI a)] h (qX (aBi T a (fun n => sTill T S n)).1 (aBi T a (fun n => sTill T S n)).2 h) := by
  obtain ⟨ht, hP, hF, hZ, -⟩ := id hQ
  obtain ⟨s0, s1, s2, s3, s4, s5, s6, s7, s8, s9, s10⟩ := shT ht
  have ha2 := ha; unfold inB at ha2
  refine gSp_of (by decide +kernel) (Nat.le_of_ble_eq_true rfl) ?_
  show gJ RX10 cX10_sitsIn 2 (some .int) _ 0 [some (.ref 0), some (.int (zI a))] [] _ _
  refine gj_aload_n (pc' := 1) dX10_sitsIn_0 rfl rfl ?_
  refine gj_iload_n (pc' := 2) dX10_sitsIn_1 rfl rfl ?_
  refine gr_X10_134 (pc' := 5) dX10_sitsIn_2 rfl (x_isBird hQ ha) rfl (by first | rfl | assumption) (by decide) rfl (Nat.le_of_ble_eq_true rfl) ?_
  first | refine gj_ifB_ne (pc' := 8) (tgt := 14) dX10_sitsIn_5 (by decide) rfl (fun c5 => ?_) (fun c5 => ?_) | refine gj_if_ne (pc' := 8) (tgt := 14) dX10_sitsIn_5 (by decide) rfl (by omega) (fun c5 => ?_) (fun c5 => ?_)
  · first | have g5 := of_decide_eq_true c5 | have g5 := of_decide_eq_false c5 | skip
    obtain ⟨n, rfl⟩ : ∃ n : Nat, a = (n : Int) := ⟨a.toNat, by omega⟩
    have hI := hQ.ci (by omega)
    obtain ⟨-, -, hT, hS, hA, hB, hN⟩ := id hI
    refine gj_aload_n (pc' := 15) dX10_sitsIn_14 rfl rfl ?_
    refine gj_aload_n (pc' := 16) dX10_sitsIn_15 rfl rfl ?_
    refine gf_X10_19 (pc' := 19) dX10_sitsIn_16 rfl (by first | rfl | assumption) rfl ?_
    refine gj_aload_n (pc' := 20) dX10_sitsIn_19 rfl rfl ?_
    refine gf_X10_54 (pc' := 23) dX10_sitsIn_20 rfl (by first | rfl | assumption) rfl ?_
    rw [hP]
    refine gj_iload_n (pc' := 24) dX10_sitsIn_23 rfl rfl ?_
    refine gj_bipush (pc' := 26) dX10_sitsIn_24 rfl (by decide) ?_
    refine gr_X10_195 (pc' := 29) dX10_sitsIn_26 rfl (s_till hI (by omega)) rfl (by first | rfl | assumption) (by decide) rfl (Nat.le_of_ble_eq_true rfl) ?_
    refine gc_X10_105 (pc' := 32) dX10_sitsIn_29 rfl (x_grant) rfl (by first | rfl | assumption) (by decide) rfl (Nat.le_of_ble_eq_true rfl) (fun v9 h9 q9 => ?_)
    obtain ⟨rfl, q9a, q9b⟩ := q9
    show gJ _ _ _ _ _ _ _ (.int (zI _) :: _) _ _
    refine gj_iret rfl dX10_sitsIn_32 ?_
    exact qX_i (by unfold aBi; (try simp only [Int.toNat_natCast]); repeat' (first | (exfalso; omega) | split | rfl | simp_all)) q9a q9b
  · first | have g5 := of_decide_eq_true c5 | have g5 := of_decide_eq_false c5 | skip
    refine gj_aload_n (pc' := 9) dX10_sitsIn_8 rfl rfl ?_
    refine gj_iconst (pc' := 10) dX10_sitsIn_9 rfl ?_
    refine gc_X10_72 (pc' := 13) dX10_sitsIn_10 rfl (x_refuse) rfl (by first | rfl | assumption) (by decide) rfl (Nat.le_of_ble_eq_true rfl) (fun v9 h9 q9 => ?_)
    obtain ⟨rfl, q9a, q9b⟩ := q9
    show gJ _ _ _ _ _ _ _ (.int (zI (-1)) :: _) _ _
    refine gj_iret rfl dX10_sitsIn_13 ?_
    exact qX_i (by unfold aBi; (try simp only [Int.toNat_natCast]); repeat' (first | (exfalso; omega) | split | rfl | simp_all)) q9a q9b
theorem x_worstDay {h : gH} {t : Nat} {T S : Nat → Nat} (hQ : XQ h t T S) : gSp 12 yX10_worstDay cX10_worstDay 1 (some .int) [.ref 0] h (qX (aTown T ((wOut T S 61).1 : Nat)).1 (aTown T ((wOut T S 61).1 : Nat)).2 h) := by
  obtain ⟨ht, hP, hF, hZ, -⟩ := id hQ
  obtain ⟨s0, s1, s2, s3, s4, s5, s6, s7, s8, s9, s10⟩ := shT ht
  refine gSp_of (by decide +kernel) (Nat.le_of_ble_eq_true rfl) ?_
  show gJ RX10 cX10_worstDay 1 (some .int) _ 0 [some (.ref 0)] [] _ _
  refine gj_aload_n (pc' := 1) dX10_worstDay_0 rfl rfl ?_
  refine gr_X10_169 (pc' := 4) dX10_worstDay_1 rfl (x_hasTown hQ) rfl (by first | rfl | assumption) (by decide) rfl (Nat.le_of_ble_eq_true rfl) ?_
  first | refine gj_ifB_eq (pc' := 7) (tgt := 27) dX10_worstDay_4 (by decide) rfl (fun c4 => ?_) (fun c4 => ?_) | refine gj_if_eq (pc' := 7) (tgt := 27) dX10_worstDay_4 (by decide) rfl (by omega) (fun c4 => ?_) (fun c4 => ?_)
  · first | have g4 := of_decide_eq_true c4 | have g4 := of_decide_eq_false c4 | skip
    refine gj_aload_n (pc' := 28) dX10_worstDay_27 rfl rfl ?_
    refine gj_iconst (pc' := 29) dX10_worstDay_28 rfl ?_
    refine gc_X10_72 (pc' := 32) dX10_worstDay_29 rfl (x_refuse) rfl (by first | rfl | assumption) (by decide) rfl (Nat.le_of_ble_eq_true rfl) (fun v9 h9 q9 => ?_)
    obtain ⟨rfl, q9a, q9b⟩ := q9
    show gJ _ _ _ _ _ _ _ (.int (zI (-1)) :: _) _ _
    refine gj_iret rfl dX10_worstDay_32 ?_
    exact qX_i (by unfold aTown; (try simp only [Int.toNat_natCast]); repeat' (first | (exfalso; omega) | split | rfl | simp_all)) q9a q9b
  · first | have g4 := of_decide_eq_true c4 | have g4 := of_decide_eq_false c4 | skip
    have hI := hQ.ci (by omega)
    obtain ⟨-, -, hT, hS, hA, hB, hN⟩ := id hI
    refine gj_aload_n (pc' := 8) dX10_worstDay_7 rfl rfl ?_
    refine gj_aload_n (pc' := 9) dX10_worstDay_8 rfl rfl ?_
    refine gf_X10_19 (pc' := 12) dX10_worstDay_9 rfl (by first | rfl | assumption) rfl ?_
    refine gj_aload_n (pc' := 13) dX10_worstDay_12 rfl rfl ?_
    refine gf_X10_54 (pc' := 16) dX10_worstDay_13 rfl (by first | rfl | assumption) rfl ?_
    rw [hP]
    refine gj_bipush (pc' := 18) dX10_worstDay_16 rfl (by decide) ?_
    refine gr_X10_198 (pc' := 21) dX10_worstDay_18 rfl (s_crowded hI) rfl (by first | rfl | assumption) (by decide) rfl (Nat.le_of_ble_eq_true rfl) ?_
    refine gc_X10_105 (pc' := 24) dX10_worstDay_21 rfl (x_grant) rfl (by first | rfl | assumption) (by decide) rfl (Nat.le_of_ble_eq_true rfl) (fun v9 h9 q9 => ?_)
    obtain ⟨rfl, q9a, q9b⟩ := q9
    show gJ _ _ _ _ _ _ _ (.int (zI _) :: _) _ _
    refine gj_goto (pc' := 32) dX10_worstDay_24 (by decide) ?_
    refine gj_iret rfl dX10_worstDay_32 ?_
    exact qX_i (by unfold aTown; (try simp only [Int.toNat_natCast]); repeat' (first | (exfalso; omega) | split | rfl | simp_all)) q9a q9b
theorem x_whitest {h : gH} {t : Nat} {T S : Nat → Nat} {b : Int} (hQ : XQ h t T S) (hb : inB b) : gSp 12 yX10_whitest cX10_whitest 2 (some .int) [.ref 0, .int (zI b)] h (qX (aToN T b (fun m => (aMax (fun k => sWi T S k m) (T 3) : Nat)) 60).1 (aToN T b (fun m => (aMax (fun k => sWi T S k m) (T 3) : Nat)) 60).2 h) := by
  obtain ⟨ht, hP, hF, hZ, -⟩ := id hQ
  obtain ⟨s0, s1, s2, s3, s4, s5, s6, s7, s8, s9, s10⟩ := shT ht
  have hb2 := hb; unfold inB at hb2
  refine gSp_of (by decide +kernel) (Nat.le_of_ble_eq_true rfl) ?_
  show gJ RX10 cX10_whitest 2 (some .int) _ 0 [some (.ref 0), some (.int (zI b))] [] _ _
  refine gj_aload_n (pc' := 1) dX10_whitest_0 rfl rfl ?_
  refine gr_X10_169 (pc' := 4) dX10_whitest_1 rfl (x_hasTown hQ) rfl (by first | rfl | assumption) (by decide) rfl (Nat.le_of_ble_eq_true rfl) ?_
  first | refine gj_ifB_ne (pc' := 7) (tgt := 13) dX10_whitest_4 (by decide) rfl (fun c4 => ?_) (fun c4 => ?_) | refine gj_if_ne (pc' := 7) (tgt := 13) dX10_whitest_4 (by decide) rfl (by omega) (fun c4 => ?_) (fun c4 => ?_)
  · first | have g4 := of_decide_eq_true c4 | have g4 := of_decide_eq_false c4 | skip
    refine gj_iload_n (pc' := 14) dX10_whitest_13 rfl rfl ?_
    refine gj_iconst (pc' := 15) dX10_whitest_14 rfl ?_
    refine gj_bipush (pc' := 17) dX10_whitest_15 rfl (by decide) ?_
    refine gr_X10_183 (pc' := 20) dX10_whitest_17 rfl (x_isWithin hb (by unfold inB; omega) (by unfold inB; omega)) rfl (by decide) rfl (Nat.le_of_ble_eq_true rfl) ?_
    first | refine gj_ifB_ne (pc' := 23) (tgt := 29) dX10_whitest_20 (by decide) rfl (fun c20 => ?_) (fun c20 => ?_) | refine gj_if_ne (pc' := 23) (tgt := 29) dX10_whitest_20 (by decide) rfl (by omega) (fun c20 => ?_) (fun c20 => ?_)
    · first | have g20 := of_decide_eq_true c20 | have g20 := of_decide_eq_false c20 | skip
      have hI := hQ.ci (by omega)
      obtain ⟨-, -, hT, hS, hA, hB, hN⟩ := id hI
      obtain ⟨m, rfl⟩ : ∃ m : Nat, b = (m : Int) := ⟨b.toNat, by omega⟩
      refine gj_aload_n (pc' := 30) dX10_whitest_29 rfl rfl ?_
      refine gj_aload_n (pc' := 31) dX10_whitest_30 rfl rfl ?_
      refine gf_X10_19 (pc' := 34) dX10_whitest_31 rfl (by first | rfl | assumption) rfl ?_
      refine gj_aload_n (pc' := 35) dX10_whitest_34 rfl rfl ?_
      refine gf_X10_54 (pc' := 38) dX10_whitest_35 rfl (by first | rfl | assumption) rfl ?_
      rw [hP]
      refine gj_iload_n (pc' := 39) dX10_whitest_38 rfl rfl ?_
      refine gr_X10_201 (pc' := 42) dX10_whitest_39 rfl (s_whitest hI (by omega)) rfl (by first | rfl | assumption) (by decide) rfl (Nat.le_of_ble_eq_true rfl) ?_
      refine gc_X10_105 (pc' := 45) dX10_whitest_42 rfl (x_grant) rfl (by first | rfl | assumption) (by decide) rfl (Nat.le_of_ble_eq_true rfl) (fun v9 h9 q9 => ?_)
      obtain ⟨rfl, q9a, q9b⟩ := q9
      show gJ _ _ _ _ _ _ _ (.int (zI _) :: _) _ _
      refine gj_iret rfl dX10_whitest_45 ?_
      exact qX_i (by unfold aToN; (try simp only [Int.toNat_natCast]); repeat' (first | (exfalso; omega) | split | rfl | simp_all)) q9a q9b
    · first | have g20 := of_decide_eq_true c20 | have g20 := of_decide_eq_false c20 | skip
      refine gj_aload_n (pc' := 24) dX10_whitest_23 rfl rfl ?_
      refine gj_iconst (pc' := 25) dX10_whitest_24 rfl ?_
      refine gc_X10_72 (pc' := 28) dX10_whitest_25 rfl (x_refuse) rfl (by first | rfl | assumption) (by decide) rfl (Nat.le_of_ble_eq_true rfl) (fun v9 h9 q9 => ?_)
      obtain ⟨rfl, q9a, q9b⟩ := q9
      show gJ _ _ _ _ _ _ _ (.int (zI (-1)) :: _) _ _
      refine gj_iret rfl dX10_whitest_28 ?_
      exact qX_i (by unfold aToN; (try simp only [Int.toNat_natCast]); repeat' (first | (exfalso; omega) | split | rfl | simp_all)) q9a q9b
  · first | have g4 := of_decide_eq_true c4 | have g4 := of_decide_eq_false c4 | skip
    refine gj_aload_n (pc' := 8) dX10_whitest_7 rfl rfl ?_
    refine gj_iconst (pc' := 9) dX10_whitest_8 rfl ?_
    refine gc_X10_72 (pc' := 12) dX10_whitest_9 rfl (x_refuse) rfl (by first | rfl | assumption) (by decide) rfl (Nat.le_of_ble_eq_true rfl) (fun v9 h9 q9 => ?_)
    obtain ⟨rfl, q9a, q9b⟩ := q9
    show gJ _ _ _ _ _ _ _ (.int (zI (-1)) :: _) _ _
    refine gj_iret rfl dX10_whitest_12 ?_
    exact qX_i (by unfold aToN; (try simp only [Int.toNat_natCast]); repeat' (first | (exfalso; omega) | split | rfl | simp_all)) q9a q9b
theorem x_allSit {h : gH} {t : Nat} {T S : Nat → Nat} (hQ : XQ h t T S) : gSp 12 yX10_allSit cX10_allSit 1 (some .int) [.ref 0] h (qX (aTown T (sAll T S)).1 (aTown T (sAll T S)).2 h) := by
  obtain ⟨ht, hP, hF, hZ, -⟩ := id hQ
  obtain ⟨s0, s1, s2, s3, s4, s5, s6, s7, s8, s9, s10⟩ := shT ht
  refine gSp_of (by decide +kernel) (Nat.le_of_ble_eq_true rfl) ?_
  show gJ RX10 cX10_allSit 1 (some .int) _ 0 [some (.ref 0)] [] _ _
  refine gj_aload_n (pc' := 1) dX10_allSit_0 rfl rfl ?_
  refine gr_X10_169 (pc' := 4) dX10_allSit_1 rfl (x_hasTown hQ) rfl (by first | rfl | assumption) (by decide) rfl (Nat.le_of_ble_eq_true rfl) ?_
  first | refine gj_ifB_eq (pc' := 7) (tgt := 27) dX10_allSit_4 (by decide) rfl (fun c4 => ?_) (fun c4 => ?_) | refine gj_if_eq (pc' := 7) (tgt := 27) dX10_allSit_4 (by decide) rfl (by omega) (fun c4 => ?_) (fun c4 => ?_)
  · first | have g4 := of_decide_eq_true c4 | have g4 := of_decide_eq_false c4 | skip
    refine gj_aload_n (pc' := 28) dX10_allSit_27 rfl rfl ?_
    refine gj_iconst (pc' := 29) dX10_allSit_28 rfl ?_
    refine gc_X10_72 (pc' := 32) dX10_allSit_29 rfl (x_refuse) rfl (by first | rfl | assumption) (by decide) rfl (Nat.le_of_ble_eq_true rfl) (fun v9 h9 q9 => ?_)
    obtain ⟨rfl, q9a, q9b⟩ := q9
    show gJ _ _ _ _ _ _ _ (.int (zI (-1)) :: _) _ _
    refine gj_iret rfl dX10_allSit_32 ?_
    exact qX_i (by unfold aTown; (try simp only [Int.toNat_natCast]); repeat' (first | (exfalso; omega) | split | rfl | simp_all)) q9a q9b
  · first | have g4 := of_decide_eq_true c4 | have g4 := of_decide_eq_false c4 | skip
    have hI := hQ.ci (by omega)
    obtain ⟨-, -, hT, hS, hA, hB, hN⟩ := id hI
    refine gj_aload_n (pc' := 8) dX10_allSit_7 rfl rfl ?_
    refine gj_aload_n (pc' := 9) dX10_allSit_8 rfl rfl ?_
    refine gf_X10_19 (pc' := 12) dX10_allSit_9 rfl (by first | rfl | assumption) rfl ?_
    refine gj_aload_n (pc' := 13) dX10_allSit_12 rfl rfl ?_
    refine gf_X10_54 (pc' := 16) dX10_allSit_13 rfl (by first | rfl | assumption) rfl ?_
    rw [hP]
    refine gj_bipush (pc' := 18) dX10_allSit_16 rfl (by decide) ?_
    refine gr_X10_204 (pc' := 21) dX10_allSit_18 rfl (s_allSit hI) rfl (by first | rfl | assumption) (by decide) rfl (Nat.le_of_ble_eq_true rfl) ?_
    refine gc_X10_105 (pc' := 24) dX10_allSit_21 rfl (x_grant) rfl (by first | rfl | assumption) (by decide) rfl (Nat.le_of_ble_eq_true rfl) (fun v9 h9 q9 => ?_)
    obtain ⟨rfl, q9a, q9b⟩ := q9
    show gJ _ _ _ _ _ _ _ (.int (zI _) :: _) _ _
    refine gj_goto (pc' := 32) dX10_allSit_24 (by decide) ?_
    refine gj_iret rfl dX10_allSit_32 ?_
    exact qX_i (by unfold aTown; (try simp only [Int.toNat_natCast]); repeat' (first | (exfalso; omega) | split | rfl | simp_all)) q9a q9b
theorem x_mayMeet {h : gH} {t : Nat} {T S : Nat → Nat} {a : Int} (hQ : XQ h t T S) (ha : inB a) : gSp 12 yX10_mayMeet cX10_mayMeet 2 (some .int) [.ref 0, .int (zI a)] h (qX (aBi T a (fun n => (sMates T S n : Int))).1 (aBi T a (fun n => (sMates T S n : Int))).2 h) := by
  obtain ⟨ht, hP, hF, hZ, -⟩ := id hQ
  obtain ⟨s0, s1, s2, s3, s4, s5, s6, s7, s8, s9, s10⟩ := shT ht
  have ha2 := ha; unfold inB at ha2
  refine gSp_of (by decide +kernel) (Nat.le_of_ble_eq_true rfl) ?_
  show gJ RX10 cX10_mayMeet 2 (some .int) _ 0 [some (.ref 0), some (.int (zI a))] [] _ _
  refine gj_aload_n (pc' := 1) dX10_mayMeet_0 rfl rfl ?_
  refine gj_iload_n (pc' := 2) dX10_mayMeet_1 rfl rfl ?_
  refine gr_X10_134 (pc' := 5) dX10_mayMeet_2 rfl (x_isBird hQ ha) rfl (by first | rfl | assumption) (by decide) rfl (Nat.le_of_ble_eq_true rfl) ?_
  first | refine gj_ifB_eq (pc' := 8) (tgt := 31) dX10_mayMeet_5 (by decide) rfl (fun c5 => ?_) (fun c5 => ?_) | refine gj_if_eq (pc' := 8) (tgt := 31) dX10_mayMeet_5 (by decide) rfl (by omega) (fun c5 => ?_) (fun c5 => ?_)
  · first | have g5 := of_decide_eq_true c5 | have g5 := of_decide_eq_false c5 | skip
    refine gj_aload_n (pc' := 32) dX10_mayMeet_31 rfl rfl ?_
    refine gj_iconst (pc' := 33) dX10_mayMeet_32 rfl ?_
    refine gc_X10_72 (pc' := 36) dX10_mayMeet_33 rfl (x_refuse) rfl (by first | rfl | assumption) (by decide) rfl (Nat.le_of_ble_eq_true rfl) (fun v9 h9 q9 => ?_)
    obtain ⟨rfl, q9a, q9b⟩ := q9
    show gJ _ _ _ _ _ _ _ (.int (zI (-1)) :: _) _ _
    refine gj_iret rfl dX10_mayMeet_36 ?_
    exact qX_i (by unfold aBi; (try simp only [Int.toNat_natCast]); repeat' (first | (exfalso; omega) | split | rfl | simp_all)) q9a q9b
  · first | have g5 := of_decide_eq_true c5 | have g5 := of_decide_eq_false c5 | skip
    obtain ⟨n, rfl⟩ : ∃ n : Nat, a = (n : Int) := ⟨a.toNat, by omega⟩
    have hI := hQ.ci (by omega)
    obtain ⟨-, -, hT, hS, hA, hB, hN⟩ := id hI
    refine gj_aload_n (pc' := 9) dX10_mayMeet_8 rfl rfl ?_
    refine gj_aload_n (pc' := 10) dX10_mayMeet_9 rfl rfl ?_
    refine gf_X10_33 (pc' := 13) dX10_mayMeet_10 rfl (by first | rfl | assumption) rfl ?_
    refine gj_aload_n (pc' := 14) dX10_mayMeet_13 rfl rfl ?_
    refine gf_X10_54 (pc' := 17) dX10_mayMeet_14 rfl (by first | rfl | assumption) rfl ?_
    rw [hP]
    refine gj_aload_n (pc' := 18) dX10_mayMeet_17 rfl rfl ?_
    refine gf_X10_19 (pc' := 21) dX10_mayMeet_18 rfl (by first | rfl | assumption) rfl ?_
    refine gj_iload_n (pc' := 22) dX10_mayMeet_21 rfl rfl ?_
    refine gr_X10_207 (pc' := 25) dX10_mayMeet_22 rfl (s_partners hI (by omega)) rfl (by first | rfl | assumption) (by decide) rfl (Nat.le_of_ble_eq_true rfl) ?_
    refine gc_X10_105 (pc' := 28) dX10_mayMeet_25 rfl (x_grant) rfl (by first | rfl | assumption) (by decide) rfl (Nat.le_of_ble_eq_true rfl) (fun v9 h9 q9 => ?_)
    obtain ⟨rfl, q9a, q9b⟩ := q9
    show gJ _ _ _ _ _ _ _ (.int (zI _) :: _) _ _
    refine gj_goto (pc' := 36) dX10_mayMeet_28 (by decide) ?_
    refine gj_iret rfl dX10_mayMeet_36 ?_
    exact qX_i (by unfold aBi; (try simp only [Int.toNat_natCast]); repeat' (first | (exfalso; omega) | split | rfl | simp_all)) q9a q9b
theorem x_meeting {h : gH} {t : Nat} {T S : Nat → Nat} {a b : Int} (hQ : XQ h t T S) (ha : inB a) (hb : inB b) : gSp 12 yX10_meeting cX10_meeting 3 (some .int) [.ref 0, .int (zI a), .int (zI b)] h (qX (aMeeting T S a b).1 (aMeeting T S a b).2 h) := by
  obtain ⟨ht, hP, hF, hZ, -⟩ := id hQ
  obtain ⟨s0, s1, s2, s3, s4, s5, s6, s7, s8, s9, s10⟩ := shT ht
  have ha2 := ha; unfold inB at ha2
  have hb2 := hb; unfold inB at hb2
  refine gSp_of (by decide +kernel) (Nat.le_of_ble_eq_true rfl) ?_
  show gJ RX10 cX10_meeting 3 (some .int) _ 0 [some (.ref 0), some (.int (zI a)), some (.int (zI b))] [] _ _
  refine gj_aload_n (pc' := 1) dX10_meeting_0 rfl rfl ?_
  refine gj_iload_n (pc' := 2) dX10_meeting_1 rfl rfl ?_
  refine gj_iload_n (pc' := 3) dX10_meeting_2 rfl rfl ?_
  refine gr_X10_211 (pc' := 6) dX10_meeting_3 rfl (x_areTwoBirds hQ ha hb) rfl (by first | rfl | assumption) (by decide) rfl (Nat.le_of_ble_eq_true rfl) ?_
  first | refine gj_ifB_ne (pc' := 9) (tgt := 15) dX10_meeting_6 (by decide) rfl (fun c6 => ?_) (fun c6 => ?_) | refine gj_if_ne (pc' := 9) (tgt := 15) dX10_meeting_6 (by decide) rfl (by omega) (fun c6 => ?_) (fun c6 => ?_)
  · first | have g6 := of_decide_eq_true c6 | have g6 := of_decide_eq_false c6 | skip
    obtain ⟨n, rfl⟩ : ∃ n : Nat, a = (n : Int) := ⟨a.toNat, by omega⟩
    have hI := hQ.ci (by omega)
    obtain ⟨-, -, hT, hS, hA, hB, hN⟩ := id hI
    obtain ⟨m, rfl⟩ : ∃ m : Nat, b = (m : Int) := ⟨b.toNat, by omega⟩
    refine gj_aload_n (pc' := 16) dX10_meeting_15 rfl rfl ?_
    refine gj_aload_n (pc' := 17) dX10_meeting_16 rfl rfl ?_
    refine gf_X10_19 (pc' := 20) dX10_meeting_17 rfl (by first | rfl | assumption) rfl ?_
    refine gj_aload_n (pc' := 21) dX10_meeting_20 rfl rfl ?_
    refine gf_X10_54 (pc' := 24) dX10_meeting_21 rfl (by first | rfl | assumption) rfl ?_
    rw [hP]
    refine gj_iload_n (pc' := 25) dX10_meeting_24 rfl rfl ?_
    refine gj_iload_n (pc' := 26) dX10_meeting_25 rfl rfl ?_
    refine gr_X10_214 (pc' := 29) dX10_meeting_26 rfl (s_pair hI (by omega) (by omega)) rfl (by first | rfl | assumption) (by decide) rfl (Nat.le_of_ble_eq_true rfl) ?_
    first | refine gj_ifB_eq (pc' := 32) (tgt := 48) dX10_meeting_29 (by decide) rfl (fun c29 => ?_) (fun c29 => ?_) | refine gj_if_eq (pc' := 32) (tgt := 48) dX10_meeting_29 (by decide) rfl (by omega) (fun c29 => ?_) (fun c29 => ?_)
    · first | have g29 := of_decide_eq_true c29 | have g29 := of_decide_eq_false c29 | skip
      refine gj_bipush (pc' := 50) dX10_meeting_48 rfl (by decide) ?_
      refine gc_X10_105 (pc' := 53) dX10_meeting_50 rfl (x_grant) rfl (by first | rfl | assumption) (by decide) rfl (Nat.le_of_ble_eq_true rfl) (fun v9 h9 q9 => ?_)
      obtain ⟨rfl, q9a, q9b⟩ := q9
      show gJ _ _ _ _ _ _ _ (.int (zI _) :: _) _ _
      refine gj_iret rfl dX10_meeting_53 ?_
      exact qX_i (by unfold aMeeting; (try simp only [Int.toNat_natCast]); repeat' (first | (exfalso; omega) | split | rfl | simp_all)) q9a q9b
    · first | have g29 := of_decide_eq_true c29 | have g29 := of_decide_eq_false c29 | skip
      refine gj_aload_n (pc' := 33) dX10_meeting_32 rfl rfl ?_
      refine gf_X10_19 (pc' := 36) dX10_meeting_33 rfl (by first | rfl | assumption) rfl ?_
      refine gj_aload_n (pc' := 37) dX10_meeting_36 rfl rfl ?_
      refine gf_X10_54 (pc' := 40) dX10_meeting_37 rfl (by first | rfl | assumption) rfl ?_
      rw [hP]
      refine gj_iload_n (pc' := 41) dX10_meeting_40 rfl rfl ?_
      refine gj_iload_n (pc' := 42) dX10_meeting_41 rfl rfl ?_
      refine gr_X10_218 (pc' := 45) dX10_meeting_42 rfl (s_pairCost hI (by omega) (by omega)) rfl (by first | rfl | assumption) (by decide) rfl (Nat.le_of_ble_eq_true rfl) ?_
      refine gj_goto (pc' := 50) dX10_meeting_45 (by decide) ?_
      refine gc_X10_105 (pc' := 53) dX10_meeting_50 rfl (x_grant) rfl (by first | rfl | assumption) (by decide) rfl (Nat.le_of_ble_eq_true rfl) (fun v9 h9 q9 => ?_)
      obtain ⟨rfl, q9a, q9b⟩ := q9
      show gJ _ _ _ _ _ _ _ (.int (zI _) :: _) _ _
      refine gj_iret rfl dX10_meeting_53 ?_
      exact qX_i (by unfold aMeeting; (try simp only [Int.toNat_natCast]); repeat' (first | (exfalso; omega) | split | rfl | simp_all)) q9a q9b
  · first | have g6 := of_decide_eq_true c6 | have g6 := of_decide_eq_false c6 | skip
    refine gj_aload_n (pc' := 10) dX10_meeting_9 rfl rfl ?_
    refine gj_iconst (pc' := 11) dX10_meeting_10 rfl ?_
    refine gc_X10_72 (pc' := 14) dX10_meeting_11 rfl (x_refuse) rfl (by first | rfl | assumption) (by decide) rfl (Nat.le_of_ble_eq_true rfl) (fun v9 h9 q9 => ?_)
    obtain ⟨rfl, q9a, q9b⟩ := q9
    show gJ _ _ _ _ _ _ _ (.int (zI (-1)) :: _) _ _
    refine gj_iret rfl dX10_meeting_14 ?_
    exact qX_i (by unfold aMeeting; (try simp only [Int.toNat_natCast]); repeat' (first | (exfalso; omega) | split | rfl | simp_all)) q9a q9b
theorem x_owes {h : gH} {t : Nat} {T S : Nat → Nat} {a : Int} (hQ : XQ h t T S) (ha : inB a) : gSp 12 yX10_owes cX10_owes 2 (some .int) [.ref 0, .int (zI a)] h (qX (aHo T a (fun n => (sOwe T S n : Int))).1 (aHo T a (fun n => (sOwe T S n : Int))).2 h) := by
  obtain ⟨ht, hP, hF, hZ, -⟩ := id hQ
  obtain ⟨s0, s1, s2, s3, s4, s5, s6, s7, s8, s9, s10⟩ := shT ht
  have ha2 := ha; unfold inB at ha2
  refine gSp_of (by decide +kernel) (Nat.le_of_ble_eq_true rfl) ?_
  show gJ RX10 cX10_owes 2 (some .int) _ 0 [some (.ref 0), some (.int (zI a))] [] _ _
  refine gj_aload_n (pc' := 1) dX10_owes_0 rfl rfl ?_
  refine gj_iload_n (pc' := 2) dX10_owes_1 rfl rfl ?_
  refine gr_X10_111 (pc' := 5) dX10_owes_2 rfl (x_isHouse hQ ha) rfl (by first | rfl | assumption) (by decide) rfl (Nat.le_of_ble_eq_true rfl) ?_
  first | refine gj_ifB_eq (pc' := 8) (tgt := 27) dX10_owes_5 (by decide) rfl (fun c5 => ?_) (fun c5 => ?_) | refine gj_if_eq (pc' := 8) (tgt := 27) dX10_owes_5 (by decide) rfl (by omega) (fun c5 => ?_) (fun c5 => ?_)
  · first | have g5 := of_decide_eq_true c5 | have g5 := of_decide_eq_false c5 | skip
    refine gj_aload_n (pc' := 28) dX10_owes_27 rfl rfl ?_
    refine gj_iconst (pc' := 29) dX10_owes_28 rfl ?_
    refine gc_X10_72 (pc' := 32) dX10_owes_29 rfl (x_refuse) rfl (by first | rfl | assumption) (by decide) rfl (Nat.le_of_ble_eq_true rfl) (fun v9 h9 q9 => ?_)
    obtain ⟨rfl, q9a, q9b⟩ := q9
    show gJ _ _ _ _ _ _ _ (.int (zI (-1)) :: _) _ _
    refine gj_iret rfl dX10_owes_32 ?_
    exact qX_i (by unfold aHo; (try simp only [Int.toNat_natCast]); repeat' (first | (exfalso; omega) | split | rfl | simp_all)) q9a q9b
  · first | have g5 := of_decide_eq_true c5 | have g5 := of_decide_eq_false c5 | skip
    obtain ⟨n, rfl⟩ : ∃ n : Nat, a = (n : Int) := ⟨a.toNat, by omega⟩
    have hI := hQ.ci (by omega)
    obtain ⟨-, -, hT, hS, hA, hB, hN⟩ := id hI
    refine gj_aload_n (pc' := 9) dX10_owes_8 rfl rfl ?_
    refine gj_aload_n (pc' := 10) dX10_owes_9 rfl rfl ?_
    refine gf_X10_19 (pc' := 13) dX10_owes_10 rfl (by first | rfl | assumption) rfl ?_
    refine gj_aload_n (pc' := 14) dX10_owes_13 rfl rfl ?_
    refine gf_X10_54 (pc' := 17) dX10_owes_14 rfl (by first | rfl | assumption) rfl ?_
    rw [hP]
    refine gj_iload_n (pc' := 18) dX10_owes_17 rfl rfl ?_
    refine gr_X10_221 (pc' := 21) dX10_owes_18 rfl (s_debt hI (by omega)) rfl (by first | rfl | assumption) (by decide) rfl (Nat.le_of_ble_eq_true rfl) ?_
    refine gc_X10_105 (pc' := 24) dX10_owes_21 rfl (x_grant) rfl (by first | rfl | assumption) (by decide) rfl (Nat.le_of_ble_eq_true rfl) (fun v9 h9 q9 => ?_)
    obtain ⟨rfl, q9a, q9b⟩ := q9
    show gJ _ _ _ _ _ _ _ (.int (zI _) :: _) _ _
    refine gj_goto (pc' := 32) dX10_owes_24 (by decide) ?_
    refine gj_iret rfl dX10_owes_32 ?_
    exact qX_i (by unfold aHo; (try simp only [Int.toNat_natCast]); repeat' (first | (exfalso; omega) | split | rfl | simp_all)) q9a q9b
theorem x_poor {h : gH} {t : Nat} {T S : Nat → Nat} (hQ : XQ h t T S) : gSp 12 yX10_poor cX10_poor 1 (some .int) [.ref 0] h (qX (aTown T (bN (fun k => decide (S (13 + k) < sOwe T S k)) (T 3) : Nat)).1 (aTown T (bN (fun k => decide (S (13 + k) < sOwe T S k)) (T 3) : Nat)).2 h) := by
  obtain ⟨ht, hP, hF, hZ, -⟩ := id hQ
  obtain ⟨s0, s1, s2, s3, s4, s5, s6, s7, s8, s9, s10⟩ := shT ht
  refine gSp_of (by decide +kernel) (Nat.le_of_ble_eq_true rfl) ?_
  show gJ RX10 cX10_poor 1 (some .int) _ 0 [some (.ref 0)] [] _ _
  refine gj_aload_n (pc' := 1) dX10_poor_0 rfl rfl ?_
  refine gr_X10_169 (pc' := 4) dX10_poor_1 rfl (x_hasTown hQ) rfl (by first | rfl | assumption) (by decide) rfl (Nat.le_of_ble_eq_true rfl) ?_
  first | refine gj_ifB_eq (pc' := 7) (tgt := 25) dX10_poor_4 (by decide) rfl (fun c4 => ?_) (fun c4 => ?_) | refine gj_if_eq (pc' := 7) (tgt := 25) dX10_poor_4 (by decide) rfl (by omega) (fun c4 => ?_) (fun c4 => ?_)
  · first | have g4 := of_decide_eq_true c4 | have g4 := of_decide_eq_false c4 | skip
    refine gj_aload_n (pc' := 26) dX10_poor_25 rfl rfl ?_
    refine gj_iconst (pc' := 27) dX10_poor_26 rfl ?_
    refine gc_X10_72 (pc' := 30) dX10_poor_27 rfl (x_refuse) rfl (by first | rfl | assumption) (by decide) rfl (Nat.le_of_ble_eq_true rfl) (fun v9 h9 q9 => ?_)
    obtain ⟨rfl, q9a, q9b⟩ := q9
    show gJ _ _ _ _ _ _ _ (.int (zI (-1)) :: _) _ _
    refine gj_iret rfl dX10_poor_30 ?_
    exact qX_i (by unfold aTown; (try simp only [Int.toNat_natCast]); repeat' (first | (exfalso; omega) | split | rfl | simp_all)) q9a q9b
  · first | have g4 := of_decide_eq_true c4 | have g4 := of_decide_eq_false c4 | skip
    have hI := hQ.ci (by omega)
    obtain ⟨-, -, hT, hS, hA, hB, hN⟩ := id hI
    refine gj_aload_n (pc' := 8) dX10_poor_7 rfl rfl ?_
    refine gj_aload_n (pc' := 9) dX10_poor_8 rfl rfl ?_
    refine gf_X10_19 (pc' := 12) dX10_poor_9 rfl (by first | rfl | assumption) rfl ?_
    refine gj_aload_n (pc' := 13) dX10_poor_12 rfl rfl ?_
    refine gf_X10_54 (pc' := 16) dX10_poor_13 rfl (by first | rfl | assumption) rfl ?_
    rw [hP]
    refine gr_X10_224 (pc' := 19) dX10_poor_16 rfl (s_inDebt hI) rfl (by first | rfl | assumption) (by decide) rfl (Nat.le_of_ble_eq_true rfl) ?_
    refine gc_X10_105 (pc' := 22) dX10_poor_19 rfl (x_grant) rfl (by first | rfl | assumption) (by decide) rfl (Nat.le_of_ble_eq_true rfl) (fun v9 h9 q9 => ?_)
    obtain ⟨rfl, q9a, q9b⟩ := q9
    show gJ _ _ _ _ _ _ _ (.int (zI _) :: _) _ _
    refine gj_goto (pc' := 30) dX10_poor_22 (by decide) ?_
    refine gj_iret rfl dX10_poor_30 ?_
    exact qX_i (by unfold aTown; (try simp only [Int.toNat_natCast]); repeat' (first | (exfalso; omega) | split | rfl | simp_all)) q9a q9b
theorem x_most {h : gH} {t : Nat} {T S : Nat → Nat} {b : Int} (hQ : XQ h t T S) (hb : inB b) : gSp 12 yX10_most cX10_most 2 (some .int) [.ref 0, .int (zI b)] h (qX (aToN T b (fun m => (lBest T S (nPr T S) m (nPr T S) : Nat)) 999).1 (aToN T b (fun m => (lBest T S (nPr T S) m (nPr T S) : Nat)) 999).2 h) := by
  obtain ⟨ht, hP, hF, hZ, -⟩ := id hQ
  obtain ⟨s0, s1, s2, s3, s4, s5, s6, s7, s8, s9, s10⟩ := shT ht
  have hb2 := hb; unfold inB at hb2
  refine gSp_of (by decide +kernel) (Nat.le_of_ble_eq_true rfl) ?_
  show gJ RX10 cX10_most 2 (some .int) _ 0 [some (.ref 0), some (.int (zI b))] [] _ _
  refine gj_aload_n (pc' := 1) dX10_most_0 rfl rfl ?_
  refine gr_X10_169 (pc' := 4) dX10_most_1 rfl (x_hasTown hQ) rfl (by first | rfl | assumption) (by decide) rfl (Nat.le_of_ble_eq_true rfl) ?_
  first | refine gj_ifB_ne (pc' := 7) (tgt := 13) dX10_most_4 (by decide) rfl (fun c4 => ?_) (fun c4 => ?_) | refine gj_if_ne (pc' := 7) (tgt := 13) dX10_most_4 (by decide) rfl (by omega) (fun c4 => ?_) (fun c4 => ?_)
  · first | have g4 := of_decide_eq_true c4 | have g4 := of_decide_eq_false c4 | skip
    refine gj_iload_n (pc' := 14) dX10_most_13 rfl rfl ?_
    refine gj_iconst (pc' := 15) dX10_most_14 rfl ?_
    refine gj_sipush (pc' := 18) dX10_most_15 rfl (by decide) ?_
    refine gr_X10_183 (pc' := 21) dX10_most_18 rfl (x_isWithin hb (by unfold inB; omega) (by unfold inB; omega)) rfl (by decide) rfl (Nat.le_of_ble_eq_true rfl) ?_
    first | refine gj_ifB_ne (pc' := 24) (tgt := 30) dX10_most_21 (by decide) rfl (fun c21 => ?_) (fun c21 => ?_) | refine gj_if_ne (pc' := 24) (tgt := 30) dX10_most_21 (by decide) rfl (by omega) (fun c21 => ?_) (fun c21 => ?_)
    · first | have g21 := of_decide_eq_true c21 | have g21 := of_decide_eq_false c21 | skip
      have hI := hQ.ci (by omega)
      obtain ⟨-, -, hT, hS, hA, hB, hN⟩ := id hI
      obtain ⟨m, rfl⟩ : ∃ m : Nat, b = (m : Int) := ⟨b.toNat, by omega⟩
      refine gj_aload_n (pc' := 31) dX10_most_30 rfl rfl ?_
      refine gj_aload_n (pc' := 32) dX10_most_31 rfl rfl ?_
      refine gf_X10_33 (pc' := 35) dX10_most_32 rfl (by first | rfl | assumption) rfl ?_
      refine gj_aload_n (pc' := 36) dX10_most_35 rfl rfl ?_
      refine gf_X10_54 (pc' := 39) dX10_most_36 rfl (by first | rfl | assumption) rfl ?_
      rw [hP]
      refine gj_aload_n (pc' := 40) dX10_most_39 rfl rfl ?_
      refine gf_X10_19 (pc' := 43) dX10_most_40 rfl (by first | rfl | assumption) rfl ?_
      refine gj_aload_n (pc' := 44) dX10_most_43 rfl rfl ?_
      refine gf_X10_19 (pc' := 47) dX10_most_44 rfl (by first | rfl | assumption) rfl ?_
      refine gj_aload_n (pc' := 48) dX10_most_47 rfl rfl ?_
      refine gf_X10_54 (pc' := 51) dX10_most_48 rfl (by first | rfl | assumption) rfl ?_
      rw [hP]
      refine gr_X10_173 (pc' := 54) dX10_most_51 rfl (s_present hI) rfl (by first | rfl | assumption) (by decide) rfl (Nat.le_of_ble_eq_true rfl) ?_
      refine gj_iload_n (pc' := 55) dX10_most_54 rfl rfl ?_
      refine gr_X10_237 (pc' := 58) dX10_most_55 rfl (s_largest hI (nPr_lt hT) (by omega)) rfl (by first | rfl | assumption) (by decide) rfl (Nat.le_of_ble_eq_true rfl) ?_
      refine gc_X10_105 (pc' := 61) dX10_most_58 rfl (x_grant) rfl (by first | rfl | assumption) (by decide) rfl (Nat.le_of_ble_eq_true rfl) (fun v9 h9 q9 => ?_)
      obtain ⟨rfl, q9a, q9b⟩ := q9
      show gJ _ _ _ _ _ _ _ (.int (zI _) :: _) _ _
      refine gj_iret rfl dX10_most_61 ?_
      exact qX_i (by unfold aToN; (try simp only [Int.toNat_natCast]); repeat' (first | (exfalso; omega) | split | rfl | simp_all)) q9a q9b
    · first | have g21 := of_decide_eq_true c21 | have g21 := of_decide_eq_false c21 | skip
      refine gj_aload_n (pc' := 25) dX10_most_24 rfl rfl ?_
      refine gj_iconst (pc' := 26) dX10_most_25 rfl ?_
      refine gc_X10_72 (pc' := 29) dX10_most_26 rfl (x_refuse) rfl (by first | rfl | assumption) (by decide) rfl (Nat.le_of_ble_eq_true rfl) (fun v9 h9 q9 => ?_)
      obtain ⟨rfl, q9a, q9b⟩ := q9
      show gJ _ _ _ _ _ _ _ (.int (zI (-1)) :: _) _ _
      refine gj_iret rfl dX10_most_29 ?_
      exact qX_i (by unfold aToN; (try simp only [Int.toNat_natCast]); repeat' (first | (exfalso; omega) | split | rfl | simp_all)) q9a q9b
  · first | have g4 := of_decide_eq_true c4 | have g4 := of_decide_eq_false c4 | skip
    refine gj_aload_n (pc' := 8) dX10_most_7 rfl rfl ?_
    refine gj_iconst (pc' := 9) dX10_most_8 rfl ?_
    refine gc_X10_72 (pc' := 12) dX10_most_9 rfl (x_refuse) rfl (by first | rfl | assumption) (by decide) rfl (Nat.le_of_ble_eq_true rfl) (fun v9 h9 q9 => ?_)
    obtain ⟨rfl, q9a, q9b⟩ := q9
    show gJ _ _ _ _ _ _ _ (.int (zI (-1)) :: _) _ _
    refine gj_iret rfl dX10_most_12 ?_
    exact qX_i (by unfold aToN; (try simp only [Int.toNat_natCast]); repeat' (first | (exfalso; omega) | split | rfl | simp_all)) q9a q9b
theorem x_coinsFor {h : gH} {t : Nat} {T S : Nat → Nat} {b : Int} (hQ : XQ h t T S) (hb : inB b) : gSp 12 yX10_coinsFor cX10_coinsFor 2 (some .int) [.ref 0, .int (zI b)] h (qX (aToN T b (fun m => cBest T S (nPr T S) m (nPr T S + 1)) 7).1 (aToN T b (fun m => cBest T S (nPr T S) m (nPr T S + 1)) 7).2 h) := by
  obtain ⟨ht, hP, hF, hZ, -⟩ := id hQ
  obtain ⟨s0, s1, s2, s3, s4, s5, s6, s7, s8, s9, s10⟩ := shT ht
  have hb2 := hb; unfold inB at hb2
  refine gSp_of (by decide +kernel) (Nat.le_of_ble_eq_true rfl) ?_
  show gJ RX10 cX10_coinsFor 2 (some .int) _ 0 [some (.ref 0), some (.int (zI b))] [] _ _
  refine gj_aload_n (pc' := 1) dX10_coinsFor_0 rfl rfl ?_
  refine gr_X10_169 (pc' := 4) dX10_coinsFor_1 rfl (x_hasTown hQ) rfl (by first | rfl | assumption) (by decide) rfl (Nat.le_of_ble_eq_true rfl) ?_
  first | refine gj_ifB_ne (pc' := 7) (tgt := 13) dX10_coinsFor_4 (by decide) rfl (fun c4 => ?_) (fun c4 => ?_) | refine gj_if_ne (pc' := 7) (tgt := 13) dX10_coinsFor_4 (by decide) rfl (by omega) (fun c4 => ?_) (fun c4 => ?_)
  · first | have g4 := of_decide_eq_true c4 | have g4 := of_decide_eq_false c4 | skip
    refine gj_iload_n (pc' := 14) dX10_coinsFor_13 rfl rfl ?_
    refine gj_iconst (pc' := 15) dX10_coinsFor_14 rfl ?_
    refine gj_bipush (pc' := 17) dX10_coinsFor_15 rfl (by decide) ?_
    refine gr_X10_183 (pc' := 20) dX10_coinsFor_17 rfl (x_isWithin hb (by unfold inB; omega) (by unfold inB; omega)) rfl (by decide) rfl (Nat.le_of_ble_eq_true rfl) ?_
    first | refine gj_ifB_ne (pc' := 23) (tgt := 29) dX10_coinsFor_20 (by decide) rfl (fun c20 => ?_) (fun c20 => ?_) | refine gj_if_ne (pc' := 23) (tgt := 29) dX10_coinsFor_20 (by decide) rfl (by omega) (fun c20 => ?_) (fun c20 => ?_)
    · first | have g20 := of_decide_eq_true c20 | have g20 := of_decide_eq_false c20 | skip
      have hI := hQ.ci (by omega)
      obtain ⟨-, -, hT, hS, hA, hB, hN⟩ := id hI
      obtain ⟨m, rfl⟩ : ∃ m : Nat, b = (m : Int) := ⟨b.toNat, by omega⟩
      refine gj_aload_n (pc' := 30) dX10_coinsFor_29 rfl rfl ?_
      refine gj_aload_n (pc' := 31) dX10_coinsFor_30 rfl rfl ?_
      refine gf_X10_33 (pc' := 34) dX10_coinsFor_31 rfl (by first | rfl | assumption) rfl ?_
      refine gj_aload_n (pc' := 35) dX10_coinsFor_34 rfl rfl ?_
      refine gf_X10_54 (pc' := 38) dX10_coinsFor_35 rfl (by first | rfl | assumption) rfl ?_
      rw [hP]
      refine gj_aload_n (pc' := 39) dX10_coinsFor_38 rfl rfl ?_
      refine gf_X10_19 (pc' := 42) dX10_coinsFor_39 rfl (by first | rfl | assumption) rfl ?_
      refine gj_iload_n (pc' := 43) dX10_coinsFor_42 rfl rfl ?_
      refine gr_X10_241 (pc' := 46) dX10_coinsFor_43 rfl (s_cheapestSet hI (by omega)) rfl (by first | rfl | assumption) (by decide) rfl (Nat.le_of_ble_eq_true rfl) ?_
      refine gc_X10_105 (pc' := 49) dX10_coinsFor_46 rfl (x_grant) rfl (by first | rfl | assumption) (by decide) rfl (Nat.le_of_ble_eq_true rfl) (fun v9 h9 q9 => ?_)
      obtain ⟨rfl, q9a, q9b⟩ := q9
      show gJ _ _ _ _ _ _ _ (.int (zI _) :: _) _ _
      refine gj_iret rfl dX10_coinsFor_49 ?_
      exact qX_i (by unfold aToN; (try simp only [Int.toNat_natCast]); repeat' (first | (exfalso; omega) | split | rfl | simp_all)) q9a q9b
    · first | have g20 := of_decide_eq_true c20 | have g20 := of_decide_eq_false c20 | skip
      refine gj_aload_n (pc' := 24) dX10_coinsFor_23 rfl rfl ?_
      refine gj_iconst (pc' := 25) dX10_coinsFor_24 rfl ?_
      refine gc_X10_72 (pc' := 28) dX10_coinsFor_25 rfl (x_refuse) rfl (by first | rfl | assumption) (by decide) rfl (Nat.le_of_ble_eq_true rfl) (fun v9 h9 q9 => ?_)
      obtain ⟨rfl, q9a, q9b⟩ := q9
      show gJ _ _ _ _ _ _ _ (.int (zI (-1)) :: _) _ _
      refine gj_iret rfl dX10_coinsFor_28 ?_
      exact qX_i (by unfold aToN; (try simp only [Int.toNat_natCast]); repeat' (first | (exfalso; omega) | split | rfl | simp_all)) q9a q9b
  · first | have g4 := of_decide_eq_true c4 | have g4 := of_decide_eq_false c4 | skip
    refine gj_aload_n (pc' := 8) dX10_coinsFor_7 rfl rfl ?_
    refine gj_iconst (pc' := 9) dX10_coinsFor_8 rfl ?_
    refine gc_X10_72 (pc' := 12) dX10_coinsFor_9 rfl (x_refuse) rfl (by first | rfl | assumption) (by decide) rfl (Nat.le_of_ble_eq_true rfl) (fun v9 h9 q9 => ?_)
    obtain ⟨rfl, q9a, q9b⟩ := q9
    show gJ _ _ _ _ _ _ _ (.int (zI (-1)) :: _) _ _
    refine gj_iret rfl dX10_coinsFor_12 ?_
    exact qX_i (by unfold aToN; (try simp only [Int.toNat_natCast]); repeat' (first | (exfalso; omega) | split | rfl | simp_all)) q9a q9b
theorem x_payable {h : gH} {t : Nat} {T S : Nat → Nat} {a : Int} (hQ : XQ h t T S) (ha : inB a) : gSp 12 yX10_payable cX10_payable 2 (some .int) [.ref 0, .int (zI a)] h (qX (aHo T a (fun n => (lBest T S (sAg T S n) (S (13 + n)) (sAg T S n) : Nat))).1 (aHo T a (fun n => (lBest T S (sAg T S n) (S (13 + n)) (sAg T S n) : Nat))).2 h) := by
  obtain ⟨ht, hP, hF, hZ, -⟩ := id hQ
  obtain ⟨s0, s1, s2, s3, s4, s5, s6, s7, s8, s9, s10⟩ := shT ht
  have ha2 := ha; unfold inB at ha2
  refine gSp_of (by decide +kernel) (Nat.le_of_ble_eq_true rfl) ?_
  show gJ RX10 cX10_payable 2 (some .int) _ 0 [some (.ref 0), some (.int (zI a))] [] _ _
  refine gj_aload_n (pc' := 1) dX10_payable_0 rfl rfl ?_
  refine gj_iload_n (pc' := 2) dX10_payable_1 rfl rfl ?_
  refine gr_X10_111 (pc' := 5) dX10_payable_2 rfl (x_isHouse hQ ha) rfl (by first | rfl | assumption) (by decide) rfl (Nat.le_of_ble_eq_true rfl) ?_
  first | refine gj_ifB_ne (pc' := 8) (tgt := 14) dX10_payable_5 (by decide) rfl (fun c5 => ?_) (fun c5 => ?_) | refine gj_if_ne (pc' := 8) (tgt := 14) dX10_payable_5 (by decide) rfl (by omega) (fun c5 => ?_) (fun c5 => ?_)
  · first | have g5 := of_decide_eq_true c5 | have g5 := of_decide_eq_false c5 | skip
    obtain ⟨n, rfl⟩ : ∃ n : Nat, a = (n : Int) := ⟨a.toNat, by omega⟩
    have hI := hQ.ci (by omega)
    obtain ⟨-, -, hT, hS, hA, hB, hN⟩ := id hI
    have k1 : sAg T S n < 128 := Nat.lt_of_lt_of_le (bN_lt _ _) (Nat.pow_le_pow_right (n := 2) (by omega) hZ.2.1)
    have k2 := hS.2.2.2.2 n (by omega)
    refine gj_aload_n (pc' := 15) dX10_payable_14 rfl rfl ?_
    refine gj_aload_n (pc' := 16) dX10_payable_15 rfl rfl ?_
    refine gf_X10_33 (pc' := 19) dX10_payable_16 rfl (by first | rfl | assumption) rfl ?_
    refine gj_aload_n (pc' := 20) dX10_payable_19 rfl rfl ?_
    refine gf_X10_54 (pc' := 23) dX10_payable_20 rfl (by first | rfl | assumption) rfl ?_
    rw [hP]
    refine gj_aload_n (pc' := 24) dX10_payable_23 rfl rfl ?_
    refine gf_X10_19 (pc' := 27) dX10_payable_24 rfl (by first | rfl | assumption) rfl ?_
    refine gj_aload_n (pc' := 28) dX10_payable_27 rfl rfl ?_
    refine gf_X10_19 (pc' := 31) dX10_payable_28 rfl (by first | rfl | assumption) rfl ?_
    refine gj_aload_n (pc' := 32) dX10_payable_31 rfl rfl ?_
    refine gf_X10_54 (pc' := 35) dX10_payable_32 rfl (by first | rfl | assumption) rfl ?_
    rw [hP]
    refine gj_iload_n (pc' := 36) dX10_payable_35 rfl rfl ?_
    refine gr_X10_130 (pc' := 39) dX10_payable_36 rfl (s_birdsFor hI (by omega)) rfl (by first | rfl | assumption) (by decide) rfl (Nat.le_of_ble_eq_true rfl) ?_
    refine gj_aload_n (pc' := 40) dX10_payable_39 rfl rfl ?_
    refine gf_X10_19 (pc' := 43) dX10_payable_40 rfl (by first | rfl | assumption) rfl ?_
    refine gf_X10_117 (pc' := 46) dX10_payable_43 rfl (by first | rfl | assumption) rfl ?_
    refine gj_iload_n (pc' := 47) dX10_payable_46 rfl rfl ?_
    refine gj_iald (pc' := 48) (by first | rfl | assumption) rfl (by omega) (by decide) dX10_payable_47 rfl ?_
    rw [(hN.2.2.2.1 n (by omega)).1]
    refine gr_X10_237 (pc' := 51) dX10_payable_48 rfl (s_largest hI k1 (by omega)) rfl (by first | rfl | assumption) (by decide) rfl (Nat.le_of_ble_eq_true rfl) ?_
    refine gc_X10_105 (pc' := 54) dX10_payable_51 rfl (x_grant) rfl (by first | rfl | assumption) (by decide) rfl (Nat.le_of_ble_eq_true rfl) (fun v9 h9 q9 => ?_)
    obtain ⟨rfl, q9a, q9b⟩ := q9
    show gJ _ _ _ _ _ _ _ (.int (zI _) :: _) _ _
    refine gj_iret rfl dX10_payable_54 ?_
    exact qX_i (by unfold aHo; (try simp only [Int.toNat_natCast]); repeat' (first | (exfalso; omega) | split | rfl | simp_all)) q9a q9b
  · first | have g5 := of_decide_eq_true c5 | have g5 := of_decide_eq_false c5 | skip
    refine gj_aload_n (pc' := 9) dX10_payable_8 rfl rfl ?_
    refine gj_iconst (pc' := 10) dX10_payable_9 rfl ?_
    refine gc_X10_72 (pc' := 13) dX10_payable_10 rfl (x_refuse) rfl (by first | rfl | assumption) (by decide) rfl (Nat.le_of_ble_eq_true rfl) (fun v9 h9 q9 => ?_)
    obtain ⟨rfl, q9a, q9b⟩ := q9
    show gJ _ _ _ _ _ _ _ (.int (zI (-1)) :: _) _ _
    refine gj_iret rfl dX10_payable_13 ?_
    exact qX_i (by unfold aHo; (try simp only [Int.toNat_natCast]); repeat' (first | (exfalso; omega) | split | rfl | simp_all)) q9a q9b
theorem x_bestMeeting {h : gH} {t : Nat} {T S : Nat → Nat} (hQ : XQ h t T S) : gSp 12 yX10_bestMeeting cX10_bestMeeting 1 (some .int) [.ref 0] h (qX (aTown T (bOut T S (T 4)).1).1 (aTown T (bOut T S (T 4)).1).2 h) := by
  obtain ⟨ht, hP, hF, hZ, -⟩ := id hQ
  obtain ⟨s0, s1, s2, s3, s4, s5, s6, s7, s8, s9, s10⟩ := shT ht
  refine gSp_of (by decide +kernel) (Nat.le_of_ble_eq_true rfl) ?_
  show gJ RX10 cX10_bestMeeting 1 (some .int) _ 0 [some (.ref 0)] [] _ _
  refine gj_aload_n (pc' := 1) dX10_bestMeeting_0 rfl rfl ?_
  refine gr_X10_169 (pc' := 4) dX10_bestMeeting_1 rfl (x_hasTown hQ) rfl (by first | rfl | assumption) (by decide) rfl (Nat.le_of_ble_eq_true rfl) ?_
  first | refine gj_ifB_eq (pc' := 7) (tgt := 29) dX10_bestMeeting_4 (by decide) rfl (fun c4 => ?_) (fun c4 => ?_) | refine gj_if_eq (pc' := 7) (tgt := 29) dX10_bestMeeting_4 (by decide) rfl (by omega) (fun c4 => ?_) (fun c4 => ?_)
  · first | have g4 := of_decide_eq_true c4 | have g4 := of_decide_eq_false c4 | skip
    refine gj_aload_n (pc' := 30) dX10_bestMeeting_29 rfl rfl ?_
    refine gj_iconst (pc' := 31) dX10_bestMeeting_30 rfl ?_
    refine gc_X10_72 (pc' := 34) dX10_bestMeeting_31 rfl (x_refuse) rfl (by first | rfl | assumption) (by decide) rfl (Nat.le_of_ble_eq_true rfl) (fun v9 h9 q9 => ?_)
    obtain ⟨rfl, q9a, q9b⟩ := q9
    show gJ _ _ _ _ _ _ _ (.int (zI (-1)) :: _) _ _
    refine gj_iret rfl dX10_bestMeeting_34 ?_
    exact qX_i (by unfold aTown; (try simp only [Int.toNat_natCast]); repeat' (first | (exfalso; omega) | split | rfl | simp_all)) q9a q9b
  · first | have g4 := of_decide_eq_true c4 | have g4 := of_decide_eq_false c4 | skip
    have hI := hQ.ci (by omega)
    obtain ⟨-, -, hT, hS, hA, hB, hN⟩ := id hI
    refine gj_aload_n (pc' := 8) dX10_bestMeeting_7 rfl rfl ?_
    refine gj_aload_n (pc' := 9) dX10_bestMeeting_8 rfl rfl ?_
    refine gf_X10_33 (pc' := 12) dX10_bestMeeting_9 rfl (by first | rfl | assumption) rfl ?_
    refine gj_aload_n (pc' := 13) dX10_bestMeeting_12 rfl rfl ?_
    refine gf_X10_54 (pc' := 16) dX10_bestMeeting_13 rfl (by first | rfl | assumption) rfl ?_
    rw [hP]
    refine gj_aload_n (pc' := 17) dX10_bestMeeting_16 rfl rfl ?_
    refine gf_X10_19 (pc' := 20) dX10_bestMeeting_17 rfl (by first | rfl | assumption) rfl ?_
    refine gr_X10_250 (pc' := 23) dX10_bestMeeting_20 rfl (s_sparing hI) rfl (by first | rfl | assumption) (by decide) rfl (Nat.le_of_ble_eq_true rfl) ?_
    refine gc_X10_105 (pc' := 26) dX10_bestMeeting_23 rfl (x_grant) rfl (by first | rfl | assumption) (by decide) rfl (Nat.le_of_ble_eq_true rfl) (fun v9 h9 q9 => ?_)
    obtain ⟨rfl, q9a, q9b⟩ := q9
    show gJ _ _ _ _ _ _ _ (.int (zI _) :: _) _ _
    refine gj_goto (pc' := 34) dX10_bestMeeting_26 (by decide) ?_
    refine gj_iret rfl dX10_bestMeeting_34 ?_
    exact qX_i (by unfold aTown; (try simp only [Int.toNat_natCast]); repeat' (first | (exfalso; omega) | split | rfl | simp_all)) q9a q9b
theorem x_feud {h : gH} {t : Nat} {T S : Nat → Nat} {a b : Int} (hQ : XQ h t T S) (ha : inB a) (hb : inB b) : gSp 12 yX10_feud cX10_feud 3 (some .int) [.ref 0, .int (zI a), .int (zI b)] h (qX (aFeud T S a b).1 (aFeud T S a b).2 h) := by
  obtain ⟨ht, hP, hF, hZ, -⟩ := id hQ
  obtain ⟨s0, s1, s2, s3, s4, s5, s6, s7, s8, s9, s10⟩ := shT ht
  have ha2 := ha; unfold inB at ha2
  have hb2 := hb; unfold inB at hb2
  refine gSp_of (by decide +kernel) (Nat.le_of_ble_eq_true rfl) ?_
  show gJ RX10 cX10_feud 3 (some .int) _ 0 [some (.ref 0), some (.int (zI a)), some (.int (zI b))] [] _ _
  refine gj_aload_n (pc' := 1) dX10_feud_0 rfl rfl ?_
  refine gj_iload_n (pc' := 2) dX10_feud_1 rfl rfl ?_
  refine gj_iload_n (pc' := 3) dX10_feud_2 rfl rfl ?_
  refine gr_X10_161 (pc' := 6) dX10_feud_3 rfl (x_areTwoHouses hQ ha hb) rfl (by first | rfl | assumption) (by decide) rfl (Nat.le_of_ble_eq_true rfl) ?_
  first | refine gj_ifB_ne (pc' := 9) (tgt := 15) dX10_feud_6 (by decide) rfl (fun c6 => ?_) (fun c6 => ?_) | refine gj_if_ne (pc' := 9) (tgt := 15) dX10_feud_6 (by decide) rfl (by omega) (fun c6 => ?_) (fun c6 => ?_)
  · first | have g6 := of_decide_eq_true c6 | have g6 := of_decide_eq_false c6 | skip
    obtain ⟨n, rfl⟩ : ∃ n : Nat, a = (n : Int) := ⟨a.toNat, by omega⟩
    have hI := hQ.ci (by omega)
    obtain ⟨-, -, hT, hS, hA, hB, hN⟩ := id hI
    obtain ⟨m, rfl⟩ : ∃ m : Nat, b = (m : Int) := ⟨b.toNat, by omega⟩
    refine gj_aload_n (pc' := 16) dX10_feud_15 rfl rfl ?_
    refine gj_aload_n (pc' := 17) dX10_feud_16 rfl rfl ?_
    refine gf_X10_19 (pc' := 20) dX10_feud_17 rfl (by first | rfl | assumption) rfl ?_
    refine gj_aload_n (pc' := 21) dX10_feud_20 rfl rfl ?_
    refine gf_X10_54 (pc' := 24) dX10_feud_21 rfl (by first | rfl | assumption) rfl ?_
    rw [hP]
    refine gj_iload_n (pc' := 25) dX10_feud_24 rfl rfl ?_
    refine gj_iload_n (pc' := 26) dX10_feud_25 rfl rfl ?_
    refine gr_X10_253 (pc' := 29) dX10_feud_26 rfl (s_feud hI (by omega) (by omega)) rfl (by first | rfl | assumption) (by decide) rfl (Nat.le_of_ble_eq_true rfl) ?_
    refine gc_X10_105 (pc' := 32) dX10_feud_29 rfl (x_grant) rfl (by first | rfl | assumption) (by decide) rfl (Nat.le_of_ble_eq_true rfl) (fun v9 h9 q9 => ?_)
    obtain ⟨rfl, q9a, q9b⟩ := q9
    show gJ _ _ _ _ _ _ _ (.int (zI _) :: _) _ _
    refine gj_iret rfl dX10_feud_32 ?_
    exact qX_i (by unfold aFeud; (try simp only [Int.toNat_natCast]); repeat' (first | (exfalso; omega) | split | rfl | simp_all)) q9a q9b
  · first | have g6 := of_decide_eq_true c6 | have g6 := of_decide_eq_false c6 | skip
    refine gj_aload_n (pc' := 10) dX10_feud_9 rfl rfl ?_
    refine gj_iconst (pc' := 11) dX10_feud_10 rfl ?_
    refine gc_X10_72 (pc' := 14) dX10_feud_11 rfl (x_refuse) rfl (by first | rfl | assumption) (by decide) rfl (Nat.le_of_ble_eq_true rfl) (fun v9 h9 q9 => ?_)
    obtain ⟨rfl, q9a, q9b⟩ := q9
    show gJ _ _ _ _ _ _ _ (.int (zI (-1)) :: _) _ _
    refine gj_iret rfl dX10_feud_14 ?_
    exact qX_i (by unfold aFeud; (try simp only [Int.toNat_natCast]); repeat' (first | (exfalso; omega) | split | rfl | simp_all)) q9a q9b
theorem x_quiet {h : gH} {t : Nat} {T S : Nat → Nat} {a : Int} (hQ : XQ h t T S) (ha : inB a) : gSp 12 yX10_quiet cX10_quiet 2 (some .int) [.ref 0, .int (zI a)] h (qX (aHo T a (fun n => (sN (fun k => if sSet T S n (S 20 + k) = 0 then 1 else 0) 61 : Nat))).1 (aHo T a (fun n => (sN (fun k => if sSet T S n (S 20 + k) = 0 then 1 else 0) 61 : Nat))).2 h) := by
  obtain ⟨ht, hP, hF, hZ, -⟩ := id hQ
  obtain ⟨s0, s1, s2, s3, s4, s5, s6, s7, s8, s9, s10⟩ := shT ht
  have ha2 := ha; unfold inB at ha2
  refine gSp_of (by decide +kernel) (Nat.le_of_ble_eq_true rfl) ?_
  show gJ RX10 cX10_quiet 2 (some .int) _ 0 [some (.ref 0), some (.int (zI a))] [] _ _
  refine gj_aload_n (pc' := 1) dX10_quiet_0 rfl rfl ?_
  refine gj_iload_n (pc' := 2) dX10_quiet_1 rfl rfl ?_
  refine gr_X10_111 (pc' := 5) dX10_quiet_2 rfl (x_isHouse hQ ha) rfl (by first | rfl | assumption) (by decide) rfl (Nat.le_of_ble_eq_true rfl) ?_
  first | refine gj_ifB_eq (pc' := 8) (tgt := 29) dX10_quiet_5 (by decide) rfl (fun c5 => ?_) (fun c5 => ?_) | refine gj_if_eq (pc' := 8) (tgt := 29) dX10_quiet_5 (by decide) rfl (by omega) (fun c5 => ?_) (fun c5 => ?_)
  · first | have g5 := of_decide_eq_true c5 | have g5 := of_decide_eq_false c5 | skip
    refine gj_aload_n (pc' := 30) dX10_quiet_29 rfl rfl ?_
    refine gj_iconst (pc' := 31) dX10_quiet_30 rfl ?_
    refine gc_X10_72 (pc' := 34) dX10_quiet_31 rfl (x_refuse) rfl (by first | rfl | assumption) (by decide) rfl (Nat.le_of_ble_eq_true rfl) (fun v9 h9 q9 => ?_)
    obtain ⟨rfl, q9a, q9b⟩ := q9
    show gJ _ _ _ _ _ _ _ (.int (zI (-1)) :: _) _ _
    refine gj_iret rfl dX10_quiet_34 ?_
    exact qX_i (by unfold aHo; (try simp only [Int.toNat_natCast]); repeat' (first | (exfalso; omega) | split | rfl | simp_all)) q9a q9b
  · first | have g5 := of_decide_eq_true c5 | have g5 := of_decide_eq_false c5 | skip
    obtain ⟨n, rfl⟩ : ∃ n : Nat, a = (n : Int) := ⟨a.toNat, by omega⟩
    have hI := hQ.ci (by omega)
    obtain ⟨-, -, hT, hS, hA, hB, hN⟩ := id hI
    refine gj_aload_n (pc' := 9) dX10_quiet_8 rfl rfl ?_
    refine gj_aload_n (pc' := 10) dX10_quiet_9 rfl rfl ?_
    refine gf_X10_19 (pc' := 13) dX10_quiet_10 rfl (by first | rfl | assumption) rfl ?_
    refine gj_aload_n (pc' := 14) dX10_quiet_13 rfl rfl ?_
    refine gf_X10_54 (pc' := 17) dX10_quiet_14 rfl (by first | rfl | assumption) rfl ?_
    rw [hP]
    refine gj_iload_n (pc' := 18) dX10_quiet_17 rfl rfl ?_
    refine gj_bipush (pc' := 20) dX10_quiet_18 rfl (by decide) ?_
    refine gr_X10_256 (pc' := 23) dX10_quiet_20 rfl (s_emptyDays hI (by omega)) rfl (by first | rfl | assumption) (by decide) rfl (Nat.le_of_ble_eq_true rfl) ?_
    refine gc_X10_105 (pc' := 26) dX10_quiet_23 rfl (x_grant) rfl (by first | rfl | assumption) (by decide) rfl (Nat.le_of_ble_eq_true rfl) (fun v9 h9 q9 => ?_)
    obtain ⟨rfl, q9a, q9b⟩ := q9
    show gJ _ _ _ _ _ _ _ (.int (zI _) :: _) _ _
    refine gj_goto (pc' := 34) dX10_quiet_26 (by decide) ?_
    refine gj_iret rfl dX10_quiet_34 ?_
    exact qX_i (by unfold aHo; (try simp only [Int.toNat_natCast]); repeat' (first | (exfalso; omega) | split | rfl | simp_all)) q9a q9b
