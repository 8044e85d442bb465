/-! the acts: the model's meeting and payment -/
theorem MI.nt {h h' : gH} {T S : Nat → Nat} (hM : MI h T S) (e5 : h'.1 145 = h.1 145) (e7 : h'.1 147 = h.1 147) : MI h' T S :=
  ⟨⟨fun k hk => by rw [e5]; exact hM.1.1 k hk, fun k hk => by rw [e7]; exact hM.1.2 k hk⟩, hM.2⟩
theorem sMt_at {g : gH} {T S : Nat → Nat} {n k p : Nat} (hp : p < T 3) (h3 : T 3 ≤ 6) (hq : sMtP T S n k < T 3) (hpp : p = sMtP T S n k ∨ nD (tLe T S n) (tLe T S k) = 0) (hnd : nD (tLe T S n) (tLe T S k) ≤ S (13 + p)) (hS : ∀ j, j < 22 → g.1 147 j = (S j : Int)) {x y z : Int} (hx : x = (S (13 + p) : Int) - (nD (tLe T S n) (tLe T S k) : Nat)) (hy : y = (S 21 : Int) + (nD (tLe T S n) (tLe T S k) : Nat)) (hz : z = ((S 19 ||| (2 ^ n ||| 2 ^ k) : Nat) : Int)) {j : Nat} (hj : j < 22) : (gui (gui (gui g 147 (13 + p) x) 147 21 y) 147 19 z).1 147 j = (sMt T S n k j : Int) := by
  rw [gui_s, gui_s, gui_s]
  by_cases c19 : j = 19
  · rw [c19, up1_s, hz]
    unfold sMt
    rw [if_neg (by omega), if_neg (by decide), if_pos rfl]
  · rw [up1_n c19]
    by_cases c21 : j = 21
    · rw [c21, up1_s, hy]
      unfold sMt
      rw [if_neg (by omega), if_pos rfl]
      omega
    · rw [up1_n c21]
      by_cases cp : j = 13 + p
      · rw [cp, up1_s, hx]
        unfold sMt
        by_cases cq : 13 + p = 13 + sMtP T S n k
        · rw [if_pos cq]; omega
        · rw [if_neg cq, if_neg (by omega), if_neg (by omega)]; omega
      · rw [up1_n cp, hS j hj]
        unfold sMt
        by_cases cq : j = 13 + sMtP T S n k
        · rw [if_pos cq]; omega
        · rw [if_neg cq, if_neg c21, if_neg c19]
theorem m_meet67 {h : gH} {T : Nat → Nat} {s : gSt} {n k p : Nat} (hX : MST h T s) (hn : n < T 4) (hk : k < T 4) (hnk : n ≠ k) (hp : p < T 3) (hpp : p = sMtP T s.1 n k ∨ nD (tLe T s.1 n) (tLe T s.1 k) = 0) (hsp : sPair T s.1 n k = true) : gJ RX11 cX11_meet 5 (some .int) 12 67 [some (.ref 142), some (.int (zI (n : Int))), some (.int (zI (k : Int))), some (.int (zI (nD (tLe T s.1 n) (tLe T s.1 k) : Nat))), none] [.int (zI (p : Int))] (mG h) (qMA (rMeet T s n k) h T) := by
  obtain ⟨hQ, hH, hV⟩ := id hX
  have hQ2 : mQ (mG h) T s.1 := hQ
  have hH2 : MH (mG h) s.2.1.1 s.2.1.2 s.2.2.1 s.2.2.2 := hH
  have hM := hQ2.mi (by omega)
  obtain ⟨-, hT, hS⟩ := id hM
  have h3 : T 3 ≤ 6 := hT.2.2.2.1.2
  have h4 : T 4 ≤ 7 := hT.2.2.2.2.1
  have hle := tLe_le (S := s.1) hT (b := n) (by omega)
  have hle2 := tLe_le (S := s.1) hT (b := k) (by omega)
  have hnd := nD_le hle hle2
  have hco := hS.2.2.2.2 _ hp
  have hq := sMtP_lt (S := s.1) hT hn hk
  have g19 := sv19 hT hS
  have hb7 : 2 ^ n < 128 := Nat.pow_lt_pow_right (a := 2) (n := 7) (by omega) (by omega)
  have hc7 : 2 ^ k < 128 := Nat.pow_lt_pow_right (a := 2) (n := 7) (by omega) (by omega)
  have hob : 2 ^ n ||| 2 ^ k < 128 := Nat.or_lt_two_pow (n := 7) hb7 hc7
  refine gj_istore (pc' := 69) dX11_meet_67 rfl (by decide) ?_
  refine gj_aload_n (pc' := 70) dX11_meet_69 rfl rfl ?_
  refine gf_X11_26 (pc' := 73) dX11_meet_70 rfl (by first | rfl | assumption) rfl ?_
  refine gj_bipush (pc' := 75) dX11_meet_73 rfl (by decide) ?_
  refine gj_iload (pc' := 77) dX11_meet_75 rfl rfl ?_
  refine gj_iadd (pc' := 78) dX11_meet_77 rfl ?_
  refine gj_iald (pc' := 79) (j := 13 + p) (by first | rfl | assumption) (by omega) (by omega) (by decide) dX11_meet_78 rfl ?_
  rw [hM.1.2 _ (by omega)]
  refine gj_iload_n (pc' := 80) dX11_meet_79 rfl rfl ?_
  refine gj_icmp_ge (pc' := 83) (tgt := 90) dX11_meet_80 (by decide) rfl (by omega) (fun c80 => ?_) (fun c80 => ?_)
  · refine gj_aload_n (pc' := 91) dX11_meet_90 rfl rfl ?_
    refine gc_X11_402 (pc' := 94) dX11_meet_91 rfl (m_note (S := s.1) (fun j hj => hM.1.2 j hj) hH2) rfl (by first | rfl | assumption) (by decide) rfl (Nat.le_of_ble_eq_true rfl) (fun v9 h9 q9 => ?_)
    obtain ⟨rfl, k0, k1, k2, k3⟩ := q9
    obtain ⟨hg, rfl⟩ : ∃ x, x = h9 := ⟨h9, rfl⟩
    have hMk : MI hg T s.1 := hM.nt (k1 145 (by decide) (by decide)) (k1 147 (by decide) (by decide))
    show gJ _ _ _ _ _ _ _ [] _ _
    refine gj_aload_n (pc' := 95) dX11_meet_94 rfl rfl ?_
    refine gf_X11_26 (pc' := 98) dX11_meet_95 rfl (by first | rfl | assumption) rfl ?_
    refine gj_bipush (pc' := 100) dX11_meet_98 rfl (by decide) ?_
    refine gj_iload (pc' := 102) dX11_meet_100 rfl rfl ?_
    refine gj_iadd (pc' := 103) dX11_meet_102 rfl ?_
    refine gj_dup2 (pc' := 104) dX11_meet_103 rfl rfl rfl ?_
    refine gj_iald (pc' := 105) (j := 13 + p) (by first | rfl | assumption) (by omega) (by omega) (by decide) dX11_meet_104 rfl ?_
    rw [hMk.1.2 _ (by omega)]
    refine gj_iload_n (pc' := 106) dX11_meet_105 rfl rfl ?_
    refine gj_isub (pc' := 107) dX11_meet_106 rfl ?_
    refine gj_iast (pc' := 108) (j := 13 + p) (by first | rfl | assumption) (by omega) (by omega) (by decide) dX11_meet_107 rfl ?_
    refine gj_aload_n (pc' := 109) dX11_meet_108 rfl rfl ?_
    refine gf_X11_26 (pc' := 112) dX11_meet_109 rfl (by first | rfl | assumption) rfl ?_
    refine gj_bipush (pc' := 114) dX11_meet_112 rfl (by decide) ?_
    refine gj_dup2 (pc' := 115) dX11_meet_114 rfl rfl rfl ?_
    refine gj_iald (pc' := 116) (j := 21) (by first | rfl | assumption) (by omega) (by omega) (by decide) dX11_meet_115 rfl ?_
    rw [gui_s, up1_n (by omega), hMk.1.2 21 (by decide)]
    refine gj_iload_n (pc' := 117) dX11_meet_116 rfl rfl ?_
    refine gj_iadd (pc' := 118) dX11_meet_117 rfl ?_
    refine gj_iast (pc' := 119) (j := 21) (by first | rfl | assumption) (by omega) (by omega) (by decide) dX11_meet_118 rfl ?_
    refine gj_aload_n (pc' := 120) dX11_meet_119 rfl rfl ?_
    refine gf_X11_26 (pc' := 123) dX11_meet_120 rfl (by first | rfl | assumption) rfl ?_
    refine gj_bipush (pc' := 125) dX11_meet_123 rfl (by decide) ?_
    refine gj_dup2 (pc' := 126) dX11_meet_125 rfl rfl rfl ?_
    refine gj_iald (pc' := 127) (j := 19) (by first | rfl | assumption) (by omega) (by omega) (by decide) dX11_meet_126 rfl ?_
    rw [gui_s, up1_n (by decide), gui_s, up1_n (by omega), hMk.1.2 19 (by decide)]
    refine gj_iconst (pc' := 128) dX11_meet_127 rfl ?_
    refine gj_iload_n (pc' := 129) dX11_meet_128 rfl rfl ?_
    refine gj_ishl (pc' := 130) dX11_meet_129 rfl ?_
    rw [bt_shl1 (by omega)]
    refine gj_iconst (pc' := 131) dX11_meet_130 rfl ?_
    refine gj_iload_n (pc' := 132) dX11_meet_131 rfl rfl ?_
    refine gj_ishl (pc' := 133) dX11_meet_132 rfl ?_
    rw [bt_shl1 (by omega)]
    refine gj_ior (pc' := 134) dX11_meet_133 rfl ?_
    rw [bt_or (by omega) (by omega)]
    refine gj_ior (pc' := 135) dX11_meet_134 rfl ?_
    rw [bt_or (by omega) (by omega)]
    refine gj_iast (pc' := 136) (j := 19) (by first | rfl | assumption) (by omega) (by omega) (by decide) dX11_meet_135 rfl ?_
    refine gj_iload_n (pc' := 137) dX11_meet_136 rfl rfl ?_
    refine gj_iret rfl dX11_meet_137 ?_
    have hcond : nD (tLe T s.1 n) (tLe T s.1 k) ≤ s.1 (13 + sMtP T s.1 n k) := by
      rcases hpp with q | q
      · rw [← q]; omega
      · omega
    refine qMA_a (s := stKeep s (sMt T s.1 n k)) (by unfold rMeet; simp only [Int.toNat_natCast]; rw [if_pos (by omega), hsp, if_pos rfl, if_pos hcond]) k0 (fun o o1 o2 o3 _ => (gui_n o2).trans ((gui_n o2).trans ((gui_n o2).trans (k1 o o1 o3)))) (fun j j1 _ => by rw [gui_n (by decide), gui_n (by decide), gui_n (by decide)]; exact k2 j j1) ⟨hQ2.to ((gui_n (by decide)).trans ((gui_n (by decide)).trans ((gui_n (by decide)).trans (k1 145 (by decide) (by decide))))) (by rw [gui_n (by decide), gui_n (by decide), gui_n (by decide)]; exact k2 14 (by decide)) (fun j hj => sMt_at hp h3 hq hpp (by omega) (fun j hj => hMk.1.2 j hj) rfl rfl rfl hj) ⟨hT, SV_mt hT hS hn hk⟩, k3.to (by rw [gui_n (by decide), gui_n (by decide), gui_n (by decide)]) (by rw [gui_n (by decide), gui_n (by decide), gui_n (by decide)]) ((gui_n (by decide)).trans ((gui_n (by decide)).trans (gui_n (by decide)))) ((gui_n (by decide)).trans ((gui_n (by decide)).trans (gui_n (by decide)))), hV.keep hS (by omega)⟩
  · refine gj_aload_n (pc' := 84) dX11_meet_83 rfl rfl ?_
    refine gj_bipush (pc' := 86) dX11_meet_84 rfl (by decide) ?_
    refine gc_X11_156 (pc' := 89) dX11_meet_86 rfl (m_no) rfl (by first | rfl | assumption) (by decide) rfl (Nat.le_of_ble_eq_true rfl) (fun v9 h9 q9 => ?_)
    obtain ⟨rfl, rfl⟩ := q9
    show gJ _ _ _ _ _ _ _ (.int (zI (-1)) :: _) _ _
    refine gj_iret rfl dX11_meet_89 ?_
    have hpq : p = sMtP T s.1 n k := by omega
    exact qMA_n (tr := 6) (by unfold rMeet; simp only [Int.toNat_natCast]; rw [if_pos (by omega), hsp, if_pos rfl, if_neg (by rw [← hpq]; omega)]) hX (MS.no h 6) rfl
theorem m_meet {h : gH} {T : Nat → Nat} {s : gSt} {a c : Int} (hX : MST h T s) (ha : inB a) (hc : inB c) : gSp 12 yX11_meet cX11_meet 5 (some .int) [.ref 142, .int (zI a), .int (zI c)] h (qMA (rMeet T s a c) h T) := by
  obtain ⟨hQ, hH, hV⟩ := id hX
  have hQ2 : mQ (mG h) T s.1 := hQ
  have ha2 := ha; unfold inB at ha2
  have hc2 := hc; unfold inB at hc2
  refine gSp_of (by decide +kernel) (Nat.le_of_ble_eq_true rfl) ?_
  show gJ RX11 cX11_meet 5 (some .int) _ 0 [some (.ref 142), some (.int (zI a)), some (.int (zI c)), none, none] [] _ _
  refine gj_aload_n (pc' := 1) dX11_meet_0 rfl rfl ?_
  refine gc_X11_153 (pc' := 4) dX11_meet_1 rfl (m_good) rfl (by first | rfl | assumption) (by decide) rfl (Nat.le_of_ble_eq_true rfl) (fun v9 h9 q9 => ?_)
  obtain ⟨rfl, rfl⟩ := q9
  show gJ _ _ _ _ _ _ _ [] _ _
  refine gj_aload_n (pc' := 5) dX11_meet_4 rfl rfl ?_
  refine gj_iload_n (pc' := 6) dX11_meet_5 rfl rfl ?_
  refine gj_iload_n (pc' := 7) dX11_meet_6 rfl rfl ?_
  refine gr_X11_308 (pc' := 10) dX11_meet_7 rfl (m_areTwoQ hQ2 ha hc) rfl (by first | rfl | assumption) (by decide) rfl (Nat.le_of_ble_eq_true rfl) ?_
  first | refine gj_ifB_ne (pc' := 13) (tgt := 19) dX11_meet_10 (by decide) rfl (fun c10 => ?_) (fun c10 => ?_) | refine gj_if_ne (pc' := 13) (tgt := 19) dX11_meet_10 (by decide) rfl (by omega) (fun c10 => ?_) (fun c10 => ?_)
  · first | have g10 := of_decide_eq_true c10 | have g10 := of_decide_eq_false c10 | skip
    have hM := hQ2.mi (by omega)
    obtain ⟨-, hT, hS⟩ := id hM
    obtain ⟨n, rfl⟩ : ∃ n : Nat, a = (n : Int) := ⟨a.toNat, by omega⟩
    obtain ⟨k, rfl⟩ : ∃ k : Nat, c = (k : Int) := ⟨c.toNat, by omega⟩
    have h4 : T 4 ≤ 7 := hT.2.2.2.2.1
    have hle := tLe_le (S := s.1) hT (b := n) (by omega)
    have hle2 := tLe_le (S := s.1) hT (b := k) (by omega)
    have t1 := (hT.2.2.2.2.2.2.2.2.1 n (by omega)).2.2.1
    have t2 := (hT.2.2.2.2.2.2.2.2.1 k (by omega)).2.2.1
    refine gj_aload_n (pc' := 20) dX11_meet_19 rfl rfl ?_
    refine gj_iload_n (pc' := 21) dX11_meet_20 rfl rfl ?_
    refine gj_iload_n (pc' := 22) dX11_meet_21 rfl rfl ?_
    refine gr_X11_305 (pc' := 25) dX11_meet_22 rfl (m_canMeet hM (by omega) (by omega)) rfl (by first | rfl | assumption) (by decide) rfl (Nat.le_of_ble_eq_true rfl) ?_
    first | refine gj_ifB_ne (pc' := 28) (tgt := 34) dX11_meet_25 (by decide) rfl (fun c25 => ?_) (fun c25 => ?_) | refine gj_if_ne (pc' := 28) (tgt := 34) dX11_meet_25 (by decide) rfl (by omega) (fun c25 => ?_) (fun c25 => ?_)
    · first | have g25 := of_decide_eq_true c25 | have g25 := of_decide_eq_false c25 | skip
      refine gj_aload_n (pc' := 35) dX11_meet_34 rfl rfl ?_
      refine gj_iload_n (pc' := 36) dX11_meet_35 rfl rfl ?_
      refine gj_iload_n (pc' := 37) dX11_meet_36 rfl rfl ?_
      refine gr_X11_311 (pc' := 40) dX11_meet_37 rfl (m_meetingOf hM (by omega) (by omega)) rfl (by first | rfl | assumption) (by decide) rfl (Nat.le_of_ble_eq_true rfl) ?_
      refine gj_istore_n (pc' := 41) dX11_meet_40 rfl (by decide) ?_
      refine gj_aload_n (pc' := 42) dX11_meet_41 rfl rfl ?_
      refine gj_iload_n (pc' := 43) dX11_meet_42 rfl rfl ?_
      refine gr_X11_274 (pc' := 46) dX11_meet_43 rfl (m_leftOf hM (by omega)) rfl (by first | rfl | assumption) (by decide) rfl (Nat.le_of_ble_eq_true rfl) ?_
      refine gj_aload_n (pc' := 47) dX11_meet_46 rfl rfl ?_
      refine gj_iload_n (pc' := 48) dX11_meet_47 rfl rfl ?_
      refine gr_X11_274 (pc' := 51) dX11_meet_48 rfl (m_leftOf hM (by omega)) rfl (by first | rfl | assumption) (by decide) rfl (Nat.le_of_ble_eq_true rfl) ?_
      refine gj_icmp_le (pc' := 54) (tgt := 62) dX11_meet_51 (by decide) rfl (by omega) (fun c51 => ?_) (fun c51 => ?_)
      · refine gj_aload_n (pc' := 63) dX11_meet_62 rfl rfl ?_
        refine gj_iload_n (pc' := 64) dX11_meet_63 rfl rfl ?_
        refine gr_X11_237 (pc' := 67) dX11_meet_64 rfl (m_forOf hM.1 (by omega)) rfl (by first | rfl | assumption) (by decide) rfl (Nat.le_of_ble_eq_true rfl) ?_
        exact m_meet67 hX (by omega) (by omega) (by omega) (by omega) (by unfold sMtP nD; (repeat' split) <;> omega) c25
      · refine gj_aload_n (pc' := 55) dX11_meet_54 rfl rfl ?_
        refine gj_iload_n (pc' := 56) dX11_meet_55 rfl rfl ?_
        refine gr_X11_237 (pc' := 59) dX11_meet_56 rfl (m_forOf hM.1 (by omega)) rfl (by first | rfl | assumption) (by decide) rfl (Nat.le_of_ble_eq_true rfl) ?_
        refine gj_goto (pc' := 67) dX11_meet_59 (by decide) ?_
        exact m_meet67 hX (by omega) (by omega) (by omega) (by omega) (by unfold sMtP nD; (repeat' split) <;> omega) c25
    · first | have g25 := of_decide_eq_true c25 | have g25 := of_decide_eq_false c25 | skip
      refine gj_aload_n (pc' := 29) dX11_meet_28 rfl rfl ?_
      refine gj_iconst (pc' := 30) dX11_meet_29 rfl ?_
      refine gc_X11_156 (pc' := 33) dX11_meet_30 rfl (m_no) rfl (by first | rfl | assumption) (by decide) rfl (Nat.le_of_ble_eq_true rfl) (fun v9 h9 q9 => ?_)
      obtain ⟨rfl, rfl⟩ := q9
      show gJ _ _ _ _ _ _ _ (.int (zI (-1)) :: _) _ _
      refine gj_iret rfl dX11_meet_33 ?_
      exact qMA_n (tr := 5) (by unfold rMeet; simp only [Int.toNat_natCast]; rw [if_pos (by omega), c25, if_neg (by decide)]) hX (MS.no h 5) rfl
  · first | have g10 := of_decide_eq_true c10 | have g10 := of_decide_eq_false c10 | skip
    refine gj_aload_n (pc' := 14) dX11_meet_13 rfl rfl ?_
    refine gj_iconst (pc' := 15) dX11_meet_14 rfl ?_
    refine gc_X11_156 (pc' := 18) dX11_meet_15 rfl (m_no) rfl (by first | rfl | assumption) (by decide) rfl (Nat.le_of_ble_eq_true rfl) (fun v9 h9 q9 => ?_)
    obtain ⟨rfl, rfl⟩ := q9
    show gJ _ _ _ _ _ _ _ (.int (zI (-1)) :: _) _ _
    refine gj_iret rfl dX11_meet_18 ?_
    exact qMA_n (tr := 1) (by unfold rMeet; rw [if_neg (by omega)]) hX (MS.no h 1) rfl
