/-! the acts: the model's payment -/
theorem sPy_at {g : gH} {T S : Nat → Nat} {n k : Nat} (hn : n < 7) (ht : T (21 + 5 * n) < 6) (hk : k ≤ S (13 + T (21 + 5 * n))) (hS : ∀ j, j < 22 → g.1 147 j = (S j : Int)) {x y z : Int} (hx : x = (S (13 + T (21 + 5 * n)) : Int) - (k : Int)) (hy : y = (S 21 : Int) + (k : Int)) (hz : z = (S n : Int) + (k : Int)) {j : Nat} (hj : j < 22) : (gui (gui (gui g 147 (13 + T (21 + 5 * n)) x) 147 21 y) 147 n z).1 147 j = (sPy T S n k j : Int) := by
  rw [gui_s, gui_s, gui_s]
  by_cases cn : j = n
  · rw [cn, up1_s, hz, sPy_b hn]; omega
  · rw [up1_n cn]
    by_cases c21 : j = 21
    · rw [c21, up1_s, hy, sPy_sp ht]; omega
    · rw [up1_n c21]
      by_cases cp : j = 13 + T (21 + 5 * n)
      · rw [cp, up1_s, hx, sPy_co]; omega
      · rw [up1_n cp, hS j hj, sPy_ne cp c21 cn]
theorem m_pay90 {h : gH} {T : Nat → Nat} {s : gSt} {n k : Nat} (hX : MST h T s) (hn : n < T 4) (hk1 : 1 ≤ k) (hk2 : k ≤ 999) (hw : sWh T s.1 n (s.1 20) = 2) (hkl : k ≤ tLe T s.1 n) (hkc : k ≤ s.1 (13 + T (21 + 5 * n))) : gJ RX11 cX11_pay 3 (some .int) 12 90 [some (.ref 142), some (.int (zI (n : Int))), some (.int (zI (k : Int)))] [] (mG h) (qMA (rPay T s n k) h T) := by
  obtain ⟨hQ, hH, hV⟩ := id hX
  have hQ2 : mQ (mG h) T s.1 := hQ
  have hH2 : MH (mG h) s.2.1.1 s.2.1.2 s.2.2.1 s.2.2.2 := hH
  have hM := hQ2.mi (by omega)
  obtain ⟨-, hT, hS⟩ := id hM
  have h3 : T 3 ≤ 6 := hT.2.2.2.1.2
  have h4 : T 4 ≤ 7 := hT.2.2.2.2.1
  have htg := (hT.2.2.2.2.2.2.2.2.1 n hn).2.2.1
  have hle := tLe_le (S := s.1) hT (b := n) hn
  have hco := hS.2.2.2.2 _ htg
  have g19 := sv19 hT hS
  have hb7 : 2 ^ n < 128 := Nat.pow_lt_pow_right (a := 2) (n := 7) (by omega) (by omega)
  have hr : rPay T s n k = ((((tLe T s.1 n - k : Nat) : Int), 0), stKeep s (sPay T s.1 n k)) := by
    unfold rPay
    simp only [Int.toNat_natCast]
    rw [if_pos (by omega), if_pos (by omega), if_pos ⟨hw, hkl⟩, if_pos hkc]
  by_cases hgo : tLe T s.1 n = k
  · have e : ∀ j, j ≠ 19 → sPay T s.1 n k j = sPy T s.1 n k j := fun j hj => if_neg (fun z => hj z.1)
    have e19 : sPay T s.1 n k 19 = s.1 19 ||| 2 ^ n := if_pos ⟨rfl, hgo⟩
    refine gj_aload_n (pc' := 91) dX11_pay_90 rfl rfl ?_
    refine gc_X11_402 (pc' := 94) dX11_pay_91 rfl (m_note (S := s.1) (fun j hj => hM.1.2 j hj) hH2) rfl (by first | rfl | assumption) (by decide) rfl (Nat.le_of_ble_eq_true rfl) (fun v9 h9 q9 => ?_)
    obtain ⟨rfl, k0, k1, k2, k3⟩ := q9
    obtain ⟨hg, rfl⟩ : ∃ x, x = h9 := ⟨h9, rfl⟩
    have hMk : MI hg T s.1 := hM.nt (k1 145 (by decide) (by decide)) (k1 147 (by decide) (by decide))
    show gJ _ _ _ _ _ _ _ [] _ _
    refine gj_aload_n (pc' := 95) dX11_pay_94 rfl rfl ?_
    refine gf_X11_26 (pc' := 98) dX11_pay_95 rfl (by first | rfl | assumption) rfl ?_
    refine gj_bipush (pc' := 100) dX11_pay_98 rfl (by decide) ?_
    refine gj_aload_n (pc' := 101) dX11_pay_100 rfl rfl ?_
    refine gj_iload_n (pc' := 102) dX11_pay_101 rfl rfl ?_
    refine gr_X11_237 (pc' := 105) dX11_pay_102 rfl (m_forOf hMk.1 (by omega)) rfl (by first | rfl | assumption) (by decide) rfl (Nat.le_of_ble_eq_true rfl) ?_
    refine gj_iadd (pc' := 106) dX11_pay_105 rfl ?_
    refine gj_dup2 (pc' := 107) dX11_pay_106 rfl rfl rfl ?_
    refine gj_iald (pc' := 108) (j := 13 + T (21 + 5 * n)) (by first | rfl | assumption) (by omega) (by omega) (by decide) dX11_pay_107 rfl ?_
    rw [hMk.1.2 _ (by omega)]
    refine gj_iload_n (pc' := 109) dX11_pay_108 rfl rfl ?_
    refine gj_isub (pc' := 110) dX11_pay_109 rfl ?_
    refine gj_iast (pc' := 111) (j := 13 + T (21 + 5 * n)) (by first | rfl | assumption) (by omega) (by omega) (by decide) dX11_pay_110 rfl ?_
    refine gj_aload_n (pc' := 112) dX11_pay_111 rfl rfl ?_
    refine gf_X11_26 (pc' := 115) dX11_pay_112 rfl (by first | rfl | assumption) rfl ?_
    refine gj_bipush (pc' := 117) dX11_pay_115 rfl (by decide) ?_
    refine gj_dup2 (pc' := 118) dX11_pay_117 rfl rfl rfl ?_
    refine gj_iald (pc' := 119) (j := 21) (by first | rfl | assumption) (by omega) (by omega) (by decide) dX11_pay_118 rfl ?_
    rw [gui_s, up1_n (by omega), hMk.1.2 21 (by decide)]
    refine gj_iload_n (pc' := 120) dX11_pay_119 rfl rfl ?_
    refine gj_iadd (pc' := 121) dX11_pay_120 rfl ?_
    refine gj_iast (pc' := 122) (j := 21) (by first | rfl | assumption) (by omega) (by omega) (by decide) dX11_pay_121 rfl ?_
    refine gj_aload_n (pc' := 123) dX11_pay_122 rfl rfl ?_
    refine gf_X11_26 (pc' := 126) dX11_pay_123 rfl (by first | rfl | assumption) rfl ?_
    refine gj_iload_n (pc' := 127) dX11_pay_126 rfl rfl ?_
    refine gj_dup2 (pc' := 128) dX11_pay_127 rfl rfl rfl ?_
    refine gj_iald (pc' := 129) (j := n) (by first | rfl | assumption) (by omega) (by omega) (by decide) dX11_pay_128 rfl ?_
    rw [gui_s, up1_n (by omega), gui_s, up1_n (by omega), hMk.1.2 n (by omega)]
    refine gj_iload_n (pc' := 130) dX11_pay_129 rfl rfl ?_
    refine gj_iadd (pc' := 131) dX11_pay_130 rfl ?_
    refine gj_iast (pc' := 132) (j := n) (by first | rfl | assumption) (by omega) (by omega) (by decide) dX11_pay_131 rfl ?_
    have hM3 : MI (gui (gui (gui hg 147 (13 + T (21 + 5 * n)) ((s.1 (13 + T (21 + 5 * n)) : Int) - (k : Int))) 147 21 ((s.1 21 : Int) + (k : Int))) 147 n ((s.1 n : Int) + (k : Int))) T (sPy T s.1 n k) := ⟨⟨fun j hj => by rw [gui_n (by decide), gui_n (by decide), gui_n (by decide)]; exact hMk.1.1 j hj, fun j hj => sPy_at (by omega) (by omega) hkc (fun j hj => hMk.1.2 j hj) rfl rfl rfl hj⟩, hT, SV_py hT hS hn hkl⟩
    refine gj_aload_n (pc' := 133) dX11_pay_132 rfl rfl ?_
    refine gj_iload_n (pc' := 134) dX11_pay_133 rfl rfl ?_
    refine gr_X11_274 (pc' := 137) dX11_pay_134 rfl (m_leftOf hM3 hn) rfl (by first | rfl | assumption) (by decide) rfl (Nat.le_of_ble_eq_true rfl) ?_
    rw [tLe_py (by omega)]
    refine gj_if_ne (pc' := 140) (tgt := 153) dX11_pay_137 (by decide) rfl (by omega) (fun c137 => ?_) (fun c137 => ?_)
    · exfalso; omega
    · refine gj_aload_n (pc' := 141) dX11_pay_140 rfl rfl ?_
      refine gf_X11_26 (pc' := 144) dX11_pay_141 rfl (by first | rfl | assumption) rfl ?_
      refine gj_bipush (pc' := 146) dX11_pay_144 rfl (by decide) ?_
      refine gj_dup2 (pc' := 147) dX11_pay_146 rfl rfl rfl ?_
      refine gj_iald (pc' := 148) (j := 19) (by first | rfl | assumption) (by omega) (by omega) (by decide) dX11_pay_147 rfl ?_
      rw [hM3.1.2 19 (by decide), sPy_ne (by omega) (by omega) (by omega)]
      refine gj_iconst (pc' := 149) dX11_pay_148 rfl ?_
      refine gj_iload_n (pc' := 150) dX11_pay_149 rfl rfl ?_
      refine gj_ishl (pc' := 151) dX11_pay_150 rfl ?_
      rw [bt_shl1 (by omega)]
      refine gj_ior (pc' := 152) dX11_pay_151 rfl ?_
      rw [bt_or (by omega) (by omega)]
      refine gj_iast (pc' := 153) (j := 19) (by first | rfl | assumption) (by omega) (by omega) (by decide) dX11_pay_152 rfl ?_
      have hM4 : MI (gui (gui (gui (gui hg 147 (13 + T (21 + 5 * n)) ((s.1 (13 + T (21 + 5 * n)) : Int) - (k : Int))) 147 21 ((s.1 21 : Int) + (k : Int))) 147 n ((s.1 n : Int) + (k : Int))) 147 19 ((s.1 19 ||| 2 ^ n : Nat) : Int)) T (sPay T s.1 n k) := ⟨⟨fun j hj => by rw [gui_n (by decide)]; exact hM3.1.1 j hj, fun j hj => by
        rw [gui_s]
        by_cases c : j = 19
        · rw [c, up1_s, e19]
        · rw [up1_n c, e j c]; exact hM3.1.2 j hj⟩, hT, SV_pay hT hS hn hkl⟩
      refine gj_aload_n (pc' := 154) dX11_pay_153 rfl rfl ?_
      refine gj_iload_n (pc' := 155) dX11_pay_154 rfl rfl ?_
      refine gr_X11_274 (pc' := 158) dX11_pay_155 rfl (m_leftOf hM4 hn) rfl (by first | rfl | assumption) (by decide) rfl (Nat.le_of_ble_eq_true rfl) ?_
      rw [tLe_pay (by omega)]
      refine gj_iret rfl dX11_pay_158 ?_
      refine qMA_a (s := stKeep s (sPay T s.1 n k)) hr k0 (fun o o1 o2 o3 _ => (gui_n o2).trans ((gui_n o2).trans ((gui_n o2).trans ((gui_n o2).trans (k1 o o1 o3))))) (fun j j1 _ => by rw [gui_n (by decide), gui_n (by decide), gui_n (by decide), gui_n (by decide)]; exact k2 j j1) ⟨hQ2.to ((gui_n (by decide)).trans ((gui_n (by decide)).trans ((gui_n (by decide)).trans ((gui_n (by decide)).trans (k1 145 (by decide) (by decide)))))) (by rw [gui_n (by decide), gui_n (by decide), gui_n (by decide), gui_n (by decide)]; exact k2 14 (by decide)) (fun j hj => hM4.1.2 j hj) ⟨hT, SV_pay hT hS hn hkl⟩, k3.to (by rw [gui_n (by decide), gui_n (by decide), gui_n (by decide), gui_n (by decide)]) (by rw [gui_n (by decide), gui_n (by decide), gui_n (by decide), gui_n (by decide)]) ((gui_n (by decide)).trans ((gui_n (by decide)).trans ((gui_n (by decide)).trans (gui_n (by decide))))) ((gui_n (by decide)).trans ((gui_n (by decide)).trans ((gui_n (by decide)).trans (gui_n (by decide))))), hV.keep hS (by omega)⟩
  · have e : sPay T s.1 n k = sPy T s.1 n k := funext fun j => if_neg (fun z => by omega)
    refine gj_aload_n (pc' := 91) dX11_pay_90 rfl rfl ?_
    refine gc_X11_402 (pc' := 94) dX11_pay_91 rfl (m_note (S := s.1) (fun j hj => hM.1.2 j hj) hH2) rfl (by first | rfl | assumption) (by decide) rfl (Nat.le_of_ble_eq_true rfl) (fun v9 h9 q9 => ?_)
    obtain ⟨rfl, k0, k1, k2, k3⟩ := q9
    obtain ⟨hg, rfl⟩ : ∃ x, x = h9 := ⟨h9, rfl⟩
    have hMk : MI hg T s.1 := hM.nt (k1 145 (by decide) (by decide)) (k1 147 (by decide) (by decide))
    show gJ _ _ _ _ _ _ _ [] _ _
    refine gj_aload_n (pc' := 95) dX11_pay_94 rfl rfl ?_
    refine gf_X11_26 (pc' := 98) dX11_pay_95 rfl (by first | rfl | assumption) rfl ?_
    refine gj_bipush (pc' := 100) dX11_pay_98 rfl (by decide) ?_
    refine gj_aload_n (pc' := 101) dX11_pay_100 rfl rfl ?_
    refine gj_iload_n (pc' := 102) dX11_pay_101 rfl rfl ?_
    refine gr_X11_237 (pc' := 105) dX11_pay_102 rfl (m_forOf hMk.1 (by omega)) rfl (by first | rfl | assumption) (by decide) rfl (Nat.le_of_ble_eq_true rfl) ?_
    refine gj_iadd (pc' := 106) dX11_pay_105 rfl ?_
    refine gj_dup2 (pc' := 107) dX11_pay_106 rfl rfl rfl ?_
    refine gj_iald (pc' := 108) (j := 13 + T (21 + 5 * n)) (by first | rfl | assumption) (by omega) (by omega) (by decide) dX11_pay_107 rfl ?_
    rw [hMk.1.2 _ (by omega)]
    refine gj_iload_n (pc' := 109) dX11_pay_108 rfl rfl ?_
    refine gj_isub (pc' := 110) dX11_pay_109 rfl ?_
    refine gj_iast (pc' := 111) (j := 13 + T (21 + 5 * n)) (by first | rfl | assumption) (by omega) (by omega) (by decide) dX11_pay_110 rfl ?_
    refine gj_aload_n (pc' := 112) dX11_pay_111 rfl rfl ?_
    refine gf_X11_26 (pc' := 115) dX11_pay_112 rfl (by first | rfl | assumption) rfl ?_
    refine gj_bipush (pc' := 117) dX11_pay_115 rfl (by decide) ?_
    refine gj_dup2 (pc' := 118) dX11_pay_117 rfl rfl rfl ?_
    refine gj_iald (pc' := 119) (j := 21) (by first | rfl | assumption) (by omega) (by omega) (by decide) dX11_pay_118 rfl ?_
    rw [gui_s, up1_n (by omega), hMk.1.2 21 (by decide)]
    refine gj_iload_n (pc' := 120) dX11_pay_119 rfl rfl ?_
    refine gj_iadd (pc' := 121) dX11_pay_120 rfl ?_
    refine gj_iast (pc' := 122) (j := 21) (by first | rfl | assumption) (by omega) (by omega) (by decide) dX11_pay_121 rfl ?_
    refine gj_aload_n (pc' := 123) dX11_pay_122 rfl rfl ?_
    refine gf_X11_26 (pc' := 126) dX11_pay_123 rfl (by first | rfl | assumption) rfl ?_
    refine gj_iload_n (pc' := 127) dX11_pay_126 rfl rfl ?_
    refine gj_dup2 (pc' := 128) dX11_pay_127 rfl rfl rfl ?_
    refine gj_iald (pc' := 129) (j := n) (by first | rfl | assumption) (by omega) (by omega) (by decide) dX11_pay_128 rfl ?_
    rw [gui_s, up1_n (by omega), gui_s, up1_n (by omega), hMk.1.2 n (by omega)]
    refine gj_iload_n (pc' := 130) dX11_pay_129 rfl rfl ?_
    refine gj_iadd (pc' := 131) dX11_pay_130 rfl ?_
    refine gj_iast (pc' := 132) (j := n) (by first | rfl | assumption) (by omega) (by omega) (by decide) dX11_pay_131 rfl ?_
    have hM3 : MI (gui (gui (gui hg 147 (13 + T (21 + 5 * n)) ((s.1 (13 + T (21 + 5 * n)) : Int) - (k : Int))) 147 21 ((s.1 21 : Int) + (k : Int))) 147 n ((s.1 n : Int) + (k : Int))) T (sPy T s.1 n k) := ⟨⟨fun j hj => by rw [gui_n (by decide), gui_n (by decide), gui_n (by decide)]; exact hMk.1.1 j hj, fun j hj => sPy_at (by omega) (by omega) hkc (fun j hj => hMk.1.2 j hj) rfl rfl rfl hj⟩, hT, SV_py hT hS hn hkl⟩
    refine gj_aload_n (pc' := 133) dX11_pay_132 rfl rfl ?_
    refine gj_iload_n (pc' := 134) dX11_pay_133 rfl rfl ?_
    refine gr_X11_274 (pc' := 137) dX11_pay_134 rfl (m_leftOf hM3 hn) rfl (by first | rfl | assumption) (by decide) rfl (Nat.le_of_ble_eq_true rfl) ?_
    rw [tLe_py (by omega)]
    refine gj_if_ne (pc' := 140) (tgt := 153) dX11_pay_137 (by decide) rfl (by omega) (fun c137 => ?_) (fun c137 => ?_)
    · have hM4 := hM3
      rw [← e] at hM4
      refine gj_aload_n (pc' := 154) dX11_pay_153 rfl rfl ?_
      refine gj_iload_n (pc' := 155) dX11_pay_154 rfl rfl ?_
      refine gr_X11_274 (pc' := 158) dX11_pay_155 rfl (m_leftOf hM4 hn) rfl (by first | rfl | assumption) (by decide) rfl (Nat.le_of_ble_eq_true rfl) ?_
      rw [tLe_pay (by omega)]
      refine gj_iret rfl dX11_pay_158 ?_
      refine qMA_a (s := stKeep s (sPay T s.1 n k)) hr k0 (fun o o1 o2 o3 _ => (gui_n o2).trans ((gui_n o2).trans ((gui_n o2).trans (k1 o o1 o3)))) (fun j j1 _ => by rw [gui_n (by decide), gui_n (by decide), gui_n (by decide)]; exact k2 j j1) ⟨hQ2.to ((gui_n (by decide)).trans ((gui_n (by decide)).trans ((gui_n (by decide)).trans (k1 145 (by decide) (by decide))))) (by rw [gui_n (by decide), gui_n (by decide), gui_n (by decide)]; exact k2 14 (by decide)) (fun j hj => hM4.1.2 j hj) ⟨hT, SV_pay hT hS hn hkl⟩, k3.to (by rw [gui_n (by decide), gui_n (by decide), gui_n (by decide)]) (by rw [gui_n (by decide), gui_n (by decide), gui_n (by decide)]) ((gui_n (by decide)).trans ((gui_n (by decide)).trans (gui_n (by decide)))) ((gui_n (by decide)).trans ((gui_n (by decide)).trans (gui_n (by decide)))), hV.keep hS (by omega)⟩
    · exfalso; omega
theorem m_pay {h : gH} {T : Nat → Nat} {s : gSt} {a c : Int} (hX : MST h T s) (ha : inB a) (hc : inB c) : gSp 12 yX11_pay cX11_pay 3 (some .int) [.ref 142, .int (zI a), .int (zI c)] h (qMA (rPay T s a c) h T) := by
  obtain ⟨hQ, hH, hV⟩ := id hX
  have hQ2 : mQ (mG h) T s.1 := hQ
  have ha2 := ha; unfold inB at ha2
  have hc2 := hc; unfold inB at hc2
  refine gSp_of (by decide +kernel) (Nat.le_of_ble_eq_true rfl) ?_
  show gJ RX11 cX11_pay 3 (some .int) _ 0 [some (.ref 142), some (.int (zI a)), some (.int (zI c))] [] _ _
  refine gj_aload_n (pc' := 1) dX11_pay_0 rfl rfl ?_
  refine gc_X11_153 (pc' := 4) dX11_pay_1 rfl (m_good) rfl (by first | rfl | assumption) (by decide) rfl (Nat.le_of_ble_eq_true rfl) (fun v9 h9 q9 => ?_)
  obtain ⟨rfl, rfl⟩ := q9
  show gJ _ _ _ _ _ _ _ [] _ _
  refine gj_aload_n (pc' := 5) dX11_pay_4 rfl rfl ?_
  refine gj_iload_n (pc' := 6) dX11_pay_5 rfl rfl ?_
  refine gr_X11_286 (pc' := 9) dX11_pay_6 rfl (m_isBirdQ hQ2 ha) rfl (by first | rfl | assumption) (by decide) rfl (Nat.le_of_ble_eq_true rfl) ?_
  first | refine gj_ifB_ne (pc' := 12) (tgt := 18) dX11_pay_9 (by decide) rfl (fun c9 => ?_) (fun c9 => ?_) | refine gj_if_ne (pc' := 12) (tgt := 18) dX11_pay_9 (by decide) rfl (by omega) (fun c9 => ?_) (fun c9 => ?_)
  · first | have g9 := of_decide_eq_true c9 | have g9 := of_decide_eq_false c9 | skip
    refine gj_iload_n (pc' := 19) dX11_pay_18 rfl rfl ?_
    refine gj_iconst (pc' := 20) dX11_pay_19 rfl ?_
    refine gj_sipush (pc' := 23) dX11_pay_20 rfl (by decide) ?_
    refine gr_X11_138 (pc' := 26) dX11_pay_23 rfl (m_in hc2 (by omega) (by omega)) rfl (by decide) rfl (Nat.le_of_ble_eq_true rfl) ?_
    first | refine gj_ifB_ne (pc' := 29) (tgt := 35) dX11_pay_26 (by decide) rfl (fun c26 => ?_) (fun c26 => ?_) | refine gj_if_ne (pc' := 29) (tgt := 35) dX11_pay_26 (by decide) rfl (by omega) (fun c26 => ?_) (fun c26 => ?_)
    · first | have g26 := of_decide_eq_true c26 | have g26 := of_decide_eq_false c26 | skip
      have hM := hQ2.mi (by omega)
      obtain ⟨-, hT, hS⟩ := id hM
      obtain ⟨n, rfl⟩ : ∃ n : Nat, a = (n : Int) := ⟨a.toNat, by omega⟩
      obtain ⟨k, rfl⟩ : ∃ k : Nat, c = (k : Int) := ⟨c.toNat, by omega⟩
      have h3 : T 3 ≤ 6 := hT.2.2.2.1.2
      have h4 : T 4 ≤ 7 := hT.2.2.2.2.1
      have h20 := hS.2.2.1
      have hle := tLe_le (S := s.1) hT (b := n) (by omega)
      have htg := (hT.2.2.2.2.2.2.2.2.1 n (by omega)).2.2.1
      have hco := hS.2.2.2.2 _ htg
      have hl : sWh T s.1 n (s.1 20) ≤ 3 := by
        unfold sWh
        repeat' (first | omega | split)
      refine gj_aload_n (pc' := 36) dX11_pay_35 rfl rfl ?_
      refine gj_iload_n (pc' := 37) dX11_pay_36 rfl rfl ?_
      refine gj_aload_n (pc' := 38) dX11_pay_37 rfl rfl ?_
      refine gf_X11_26 (pc' := 41) dX11_pay_38 rfl (by first | rfl | assumption) rfl ?_
      refine gj_bipush (pc' := 43) dX11_pay_41 rfl (by decide) ?_
      refine gj_iald (pc' := 44) (j := 20) (by first | rfl | assumption) (by omega) (by omega) (by decide) dX11_pay_43 rfl ?_
      rw [hM.1.2 20 (by decide)]
      refine gr_X11_268 (pc' := 47) dX11_pay_44 rfl (m_whereOn hM (by omega) (by omega)) rfl (by first | rfl | assumption) (by decide) rfl (Nat.le_of_ble_eq_true rfl) ?_
      refine gj_iconst (pc' := 48) dX11_pay_47 rfl ?_
      refine gj_icmp_ne (pc' := 51) (tgt := 60) dX11_pay_48 (by decide) rfl (by omega) (fun c48 => ?_) (fun c48 => ?_)
      · refine gj_aload_n (pc' := 61) dX11_pay_60 rfl rfl ?_
        refine gj_iconst (pc' := 62) dX11_pay_61 rfl ?_
        refine gc_X11_156 (pc' := 65) dX11_pay_62 rfl (m_no) rfl (by first | rfl | assumption) (by decide) rfl (Nat.le_of_ble_eq_true rfl) (fun v9 h9 q9 => ?_)
        obtain ⟨rfl, rfl⟩ := q9
        show gJ _ _ _ _ _ _ _ (.int (zI (-1)) :: _) _ _
        refine gj_iret rfl dX11_pay_65 ?_
        exact qMA_n (tr := 5) (by unfold rPay; simp only [Int.toNat_natCast]; rw [if_pos (by omega), if_pos (by omega), if_neg (by omega)]) hX (MS.no h 5) rfl
      · refine gj_aload_n (pc' := 52) dX11_pay_51 rfl rfl ?_
        refine gj_iload_n (pc' := 53) dX11_pay_52 rfl rfl ?_
        refine gr_X11_274 (pc' := 56) dX11_pay_53 rfl (m_leftOf hM (by omega)) rfl (by first | rfl | assumption) (by decide) rfl (Nat.le_of_ble_eq_true rfl) ?_
        refine gj_iload_n (pc' := 57) dX11_pay_56 rfl rfl ?_
        refine gj_icmp_ge (pc' := 60) (tgt := 66) dX11_pay_57 (by decide) rfl (by omega) (fun c57 => ?_) (fun c57 => ?_)
        · refine gj_aload_n (pc' := 67) dX11_pay_66 rfl rfl ?_
          refine gf_X11_26 (pc' := 70) dX11_pay_67 rfl (by first | rfl | assumption) rfl ?_
          refine gj_bipush (pc' := 72) dX11_pay_70 rfl (by decide) ?_
          refine gj_aload_n (pc' := 73) dX11_pay_72 rfl rfl ?_
          refine gj_iload_n (pc' := 74) dX11_pay_73 rfl rfl ?_
          refine gr_X11_237 (pc' := 77) dX11_pay_74 rfl (m_forOf hM.1 (by omega)) rfl (by first | rfl | assumption) (by decide) rfl (Nat.le_of_ble_eq_true rfl) ?_
          refine gj_iadd (pc' := 78) dX11_pay_77 rfl ?_
          refine gj_iald (pc' := 79) (j := 13 + T (21 + 5 * n)) (by first | rfl | assumption) (by omega) (by omega) (by decide) dX11_pay_78 rfl ?_
          rw [hM.1.2 _ (by omega)]
          refine gj_iload_n (pc' := 80) dX11_pay_79 rfl rfl ?_
          refine gj_icmp_ge (pc' := 83) (tgt := 90) dX11_pay_80 (by decide) rfl (by omega) (fun c80 => ?_) (fun c80 => ?_)
          · exact m_pay90 hX (by omega) (by omega) (by omega) (by omega) (by omega) (by omega)
          · refine gj_aload_n (pc' := 84) dX11_pay_83 rfl rfl ?_
            refine gj_bipush (pc' := 86) dX11_pay_84 rfl (by decide) ?_
            refine gc_X11_156 (pc' := 89) dX11_pay_86 rfl (m_no) rfl (by first | rfl | assumption) (by decide) rfl (Nat.le_of_ble_eq_true rfl) (fun v9 h9 q9 => ?_)
            obtain ⟨rfl, rfl⟩ := q9
            show gJ _ _ _ _ _ _ _ (.int (zI (-1)) :: _) _ _
            refine gj_iret rfl dX11_pay_89 ?_
            exact qMA_n (tr := 6) (by unfold rPay; simp only [Int.toNat_natCast]; rw [if_pos (by omega), if_pos (by omega), if_pos (by omega), if_neg (by omega)]) hX (MS.no h 6) rfl
        · refine gj_aload_n (pc' := 61) dX11_pay_60 rfl rfl ?_
          refine gj_iconst (pc' := 62) dX11_pay_61 rfl ?_
          refine gc_X11_156 (pc' := 65) dX11_pay_62 rfl (m_no) rfl (by first | rfl | assumption) (by decide) rfl (Nat.le_of_ble_eq_true rfl) (fun v9 h9 q9 => ?_)
          obtain ⟨rfl, rfl⟩ := q9
          show gJ _ _ _ _ _ _ _ (.int (zI (-1)) :: _) _ _
          refine gj_iret rfl dX11_pay_65 ?_
          exact qMA_n (tr := 5) (by unfold rPay; simp only [Int.toNat_natCast]; rw [if_pos (by omega), if_pos (by omega), if_neg (by omega)]) hX (MS.no h 5) rfl
    · first | have g26 := of_decide_eq_true c26 | have g26 := of_decide_eq_false c26 | skip
      refine gj_aload_n (pc' := 30) dX11_pay_29 rfl rfl ?_
      refine gj_iconst (pc' := 31) dX11_pay_30 rfl ?_
      refine gc_X11_156 (pc' := 34) dX11_pay_31 rfl (m_no) rfl (by first | rfl | assumption) (by decide) rfl (Nat.le_of_ble_eq_true rfl) (fun v9 h9 q9 => ?_)
      obtain ⟨rfl, rfl⟩ := q9
      show gJ _ _ _ _ _ _ _ (.int (zI (-1)) :: _) _ _
      refine gj_iret rfl dX11_pay_34 ?_
      exact qMA_n (tr := 2) (by unfold rPay; rw [if_pos (by omega), if_neg (by omega)]) hX (MS.no h 2) rfl
  · first | have g9 := of_decide_eq_true c9 | have g9 := of_decide_eq_false c9 | skip
    refine gj_aload_n (pc' := 13) dX11_pay_12 rfl rfl ?_
    refine gj_iconst (pc' := 14) dX11_pay_13 rfl ?_
    refine gc_X11_156 (pc' := 17) dX11_pay_14 rfl (m_no) rfl (by first | rfl | assumption) (by decide) rfl (Nat.le_of_ble_eq_true rfl) (fun v9 h9 q9 => ?_)
    obtain ⟨rfl, rfl⟩ := q9
    show gJ _ _ _ _ _ _ _ (.int (zI (-1)) :: _) _ _
    refine gj_iret rfl dX11_pay_17 ?_
    exact qMA_n (tr := 1) (by unfold rPay; rw [if_neg (by omega)]) hX (MS.no h 1) rfl
