/-! PEACE: both faces -/
theorem m_seekPeace {h : gH} {T S : Nat → Nat} (hM : MI h T S) : gSp 14 yX11_seekPeace cX11_seekPeace 2 none [.ref 142] h (fun v h' => v = none ∧ h'.2 = h.2 ∧ (∀ o, o ≠ 142 → o ≠ 150 → o ≠ 151 → h'.1 o = h.1 o) ∧ (∀ k, k ≠ 24 → k ≠ 25 → h'.1 142 k = h.1 142 k) ∧ h'.1 142 24 = ((pz T S (T 4) (nPr T S)).1 : Int) ∧ h'.1 142 25 = ((pz T S (T 4) (nPr T S)).2.1 : Int) ∧ ∀ i, i < T 4 → sGone S i = false → h'.1 151 i = (pz T S (T 4) (nPr T S)).2.2 i) := by
  obtain ⟨hA, hT, hS⟩ := id hM
  have h4 : T 4 ≤ 7 := hT.2.2.2.2.1
  have hpe := pz_le4 (S := S) hT (nPr T S)
  have hex : pz T S (T 4) (nWo (nPr T S) 0) = pz T S (T 4) (nPr T S) := pz_ext (T 4) _ _ (Nat.le_refl _) (fun i _ _ => by rw [nWo_bit, Nat.zero_testBit]; simp)
  refine gSp_of (by decide +kernel) (Nat.le_of_ble_eq_true rfl) ?_
  show gJ RX11 cX11_seekPeace 2 none _ 0 [some (.ref 142), none] [] _ _
  refine gj_iconst (pc' := 1) dX11_seekPeace_0 rfl ?_
  refine gj_istore_n (pc' := 2) dX11_seekPeace_1 rfl (by decide) ?_
  refine gJ_wk (gJ_fH0 (L := fun b  => [some (.ref 142), some (.int (zI (b : Int)))]) (I := fun b  hp => hp.2 = h.2 ∧ (∀ o, o ≠ 150 → hp.1 o = h.1 o)) (7) (fun b  hp hb_b iv_b ih_b => ?step_1) (0) (Nat.zero_le _)  _ ?iv0_1) ?ll0_1
  case ll0_1 =>
    repeat' (first | exact True.intro | with_reducible exact rfl | refine And.intro ?_ ?_ | refine vI ?_ | refine vL ?_)
    all_goals first | rfl | omega
  case iv0_1 =>
    exact ⟨rfl, fun _ _ => rfl⟩
  obtain ⟨i1, i2⟩ := iv_b
  refine gj_iload_n (pc' := 3) dX11_seekPeace_2 rfl rfl ?_
  refine gj_bipush (pc' := 5) dX11_seekPeace_3 rfl (by decide) ?_
  refine gj_icmp_ge (pc' := 8) (tgt := 22) dX11_seekPeace_5 (by decide) rfl (by omega) (fun c5 => ?_) (fun c5 => ?_)
  · refine gj_aload_n (pc' := 23) dX11_seekPeace_22 rfl rfl ?_
    refine gj_ldcw (z := 1000000) (pc' := 26) dX11_seekPeace_23 rfl (gtb_at 1707 (by decide +kernel) rfl) ?_
    refine gp_X11_317 (pc' := 29) dX11_seekPeace_26 rfl (by first | rfl | assumption) rfl ?_
    refine gj_aload_n (pc' := 30) dX11_seekPeace_29 rfl rfl ?_
    refine gj_iconst (pc' := 31) dX11_seekPeace_30 rfl ?_
    refine gp_X11_320 (pc' := 34) dX11_seekPeace_31 rfl (by first | rfl | assumption) rfl ?_
    refine gj_aload_n (pc' := 35) dX11_seekPeace_34 rfl rfl ?_
    refine gj_iconst (pc' := 36) dX11_seekPeace_35 rfl ?_
    refine gj_iconst (pc' := 37) dX11_seekPeace_36 rfl ?_
    refine gj_iconst (pc' := 38) dX11_seekPeace_37 rfl ?_
    have hc := m_tryPeace hT hS (T 4) (Nat.le_refl _) (gui (gui hp 142 24 1000000) 142 25 0) 0 0 (1000000, 0, hp.1 151) (hM.nt ((gui_n (by decide)).trans ((gui_n (by decide)).trans (i2 145 (by decide)))) ((gui_n (by decide)).trans ((gui_n (by decide)).trans (i2 147 (by decide))))).1 (by decide) (Nat.zero_le _) (Nat.le_refl _) ⟨by rw [gui_s, up1_n (by decide), gui_s, up1_s]; rfl, by rw [gui_s, up1_s]; rfl, fun i _ => by rw [gui_n (by decide), gui_n (by decide)]⟩
    rw [Nat.sub_self, hex] at hc
    refine gc_X11_323 (pc' := 41) dX11_seekPeace_38 rfl (hc) rfl (by first | rfl | assumption) (by omega) rfl (Nat.le_of_ble_eq_true rfl) (fun v9 h9 q9 => ?_)
    obtain ⟨rfl, q0, q1, q2, q3, q4⟩ := q9
    show gJ _ _ _ _ _ _ _ [] _ _
    refine gj_vret rfl dX11_seekPeace_41 ?_
    obtain ⟨a, b2, c⟩ := q4
    unfold mrg at a b2 c
    have hlt : (pzO 0 (nWo (nPr T S) 0) (pz T S (T 4) (nPr T S)) 0 ((gui (gui hp 142 24 1000000) 142 25 0).1 150)).1 < 1000000 := by
      show 0 + (pz T S (T 4) (nPr T S)).1 < 1000000
      omega
    simp only at a b2 c
    rw [if_pos hlt] at a b2
    refine ⟨rfl, q0.trans i1, fun o o1 o2 o3 => (q1 o o1 o2 o3).trans ((gui_n o1).trans ((gui_n o1).trans (i2 o o2))), fun k k1 k2 => (q2 k k1 k2).trans ?_, ?_, b2, fun i hi hg => ?_⟩
    · rw [gui_s, up1_n k2, gui_s, up1_n k1, i2 142 (by decide)]
    · rw [a]
      show ((0 + (pz T S (T 4) (nPr T S)).1 : Nat) : Int) = _
      rw [Nat.zero_add]
    · have := c i (by omega)
      rw [if_pos hlt] at this
      rw [this]
      show (if 0 ≤ i ∧ (nWo (nPr T S) 0).testBit i = true then _ else _) = _
      rw [if_pos ⟨Nat.zero_le _, by rw [pzm_bit 0 hi, hg, Nat.zero_testBit]; rfl⟩]
  · refine gj_aload_n (pc' := 9) dX11_seekPeace_8 rfl rfl ?_
    refine gf_X11_35 (pc' := 12) dX11_seekPeace_9 rfl (by first | rfl | assumption) rfl ?_
    refine gj_iload_n (pc' := 13) dX11_seekPeace_12 rfl rfl ?_
    refine gj_bipush (pc' := 15) dX11_seekPeace_13 rfl (by decide) ?_
    refine gj_iast (pc' := 16) (j := b) (by first | rfl | assumption) (by omega) (by omega) (by decide) dX11_seekPeace_15 rfl ?_
    refine gj_iinc (pc' := 19) dX11_seekPeace_16 rfl rfl (by decide) ?_
    refine gj_goto (pc' := 2) dX11_seekPeace_19 (by decide) ?_
    refine gJ_wk (ih_b  _ (by omega) ?iv_2) ?ll_2
    case ll_2 =>
      repeat' (first | exact True.intro | with_reducible exact rfl | refine And.intro ?_ ?_ | refine vI ?_ | refine vL ?_)
      all_goals omega
    exact ⟨i1, fun o ho => (gui_n ho).trans (i2 o ho)⟩
theorem MS.seek2 {h h9 : gH} (r1 : h9.2 = (mG h).2) (r2 : ∀ o, o ≠ 142 → o ≠ 150 → o ≠ 151 → h9.1 o = (mG h).1 o) (r3 : ∀ k, k ≠ 24 → k ≠ 25 → h9.1 142 k = (mG h).1 142 k) : MS h h9 := by
  obtain ⟨g1, g2, g3, g4⟩ := MS.good h
  exact ⟨r1.trans g1, fun o a a1 a2 a3 a4 a5 a6 => (r2 o a a1 a2).trans (g2 o a a1 a2 a3 a4 a5 a6), fun k a b c => (r3 k (by omega) (by omega)).trans (g3 k a b c), (r3 0 (by omega) (by omega)).trans g4⟩
theorem m_peace {h : gH} {T S : Nat → Nat} (hQ : mQ h T S) : gSp 16 yX11_peace cX11_peace 1 (some .int) [.ref 142] h (qM (aTown T ((pz T S (T 4) (nPr T S)).1 : Nat)).1 (aTown T ((pz T S (T 4) (nPr T S)).1 : Nat)).2 h) := by
  obtain ⟨hA, hH, hZ, -⟩ := id hQ
  have hH2 : (mG h).1 142 14 = bI (decide (T 3 ≠ 0)) := hH
  refine gSp_of (by decide +kernel) (Nat.le_of_ble_eq_true rfl) ?_
  show gJ RX11 cX11_peace 1 (some .int) _ 0 [some (.ref 142)] [] _ _
  refine gj_aload_n (pc' := 1) dX11_peace_0 rfl rfl ?_
  refine gc_X11_153 (pc' := 4) dX11_peace_1 rfl (m_good) rfl (by first | rfl | assumption) (by decide) rfl (Nat.le_of_ble_eq_true rfl) (fun v9 h9 q9 => ?_)
  obtain ⟨rfl, rfl⟩ := q9
  show gJ _ _ _ _ _ _ _ [] _ _
  refine gj_aload_n (pc' := 5) dX11_peace_4 rfl rfl ?_
  refine gf_X11_166 (pc' := 8) dX11_peace_5 rfl (by first | rfl | assumption) rfl ?_
  rw [hH2]
  first | refine gj_ifB_ne (pc' := 11) (tgt := 17) dX11_peace_8 (by decide) rfl (fun c8 => ?_) (fun c8 => ?_) | refine gj_if_ne (pc' := 11) (tgt := 17) dX11_peace_8 (by decide) rfl (by omega) (fun c8 => ?_) (fun c8 => ?_)
  · first | have g8 := of_decide_eq_true c8 | have g8 := of_decide_eq_false c8 | skip
    have hM : MI (mG h) T S := hQ.mi (by omega)
    refine gj_aload_n (pc' := 18) dX11_peace_17 rfl rfl ?_
    refine gc_X11_328 (pc' := 21) dX11_peace_18 rfl (m_seekPeace hM) rfl (by first | rfl | assumption) (by decide) rfl (Nat.le_of_ble_eq_true rfl) (fun v9 h9 q9 => ?_)
    obtain ⟨rfl, r1, r2, r3, r4, r5, r6⟩ := q9
    obtain ⟨hd, rfl⟩ : ∃ x, x = h9 := ⟨h9, rfl⟩
    show gJ _ _ _ _ _ _ _ [] _ _
    refine gj_aload_n (pc' := 22) dX11_peace_21 rfl rfl ?_
    refine gf_X11_317 (pc' := 25) dX11_peace_22 rfl (by first | rfl | assumption) rfl ?_
    rw [r4]
    refine gj_iret rfl dX11_peace_25 ?_
    exact qM_i (tr := 0) (by unfold aTown; rw [if_pos (by omega)]) (MS.seek2 r1 r2 r3) ((r3 11 (by decide) (by decide)).trans rfl)
  · first | have g8 := of_decide_eq_true c8 | have g8 := of_decide_eq_false c8 | skip
    refine gj_aload_n (pc' := 12) dX11_peace_11 rfl rfl ?_
    refine gj_iconst (pc' := 13) dX11_peace_12 rfl ?_
    refine gc_X11_156 (pc' := 16) dX11_peace_13 rfl (m_no) rfl (by first | rfl | assumption) (by decide) rfl (Nat.le_of_ble_eq_true rfl) (fun v9 h9 q9 => ?_)
    obtain ⟨rfl, rfl⟩ := q9
    show gJ _ _ _ _ _ _ _ (.int (zI (-1)) :: _) _ _
    refine gj_iret rfl dX11_peace_16 ?_
    exact qM_n (by unfold aTown; rw [if_neg (by omega)])
theorem m_peaces {h : gH} {T S : Nat → Nat} (hQ : mQ h T S) : gSp 16 yX11_peaces cX11_peaces 1 (some .int) [.ref 142] h (qM (aTown T ((pz T S (T 4) (nPr T S)).2.1 : Nat)).1 (aTown T ((pz T S (T 4) (nPr T S)).2.1 : Nat)).2 h) := by
  obtain ⟨hA, hH, hZ, -⟩ := id hQ
  have hH2 : (mG h).1 142 14 = bI (decide (T 3 ≠ 0)) := hH
  refine gSp_of (by decide +kernel) (Nat.le_of_ble_eq_true rfl) ?_
  show gJ RX11 cX11_peaces 1 (some .int) _ 0 [some (.ref 142)] [] _ _
  refine gj_aload_n (pc' := 1) dX11_peaces_0 rfl rfl ?_
  refine gc_X11_153 (pc' := 4) dX11_peaces_1 rfl (m_good) rfl (by first | rfl | assumption) (by decide) rfl (Nat.le_of_ble_eq_true rfl) (fun v9 h9 q9 => ?_)
  obtain ⟨rfl, rfl⟩ := q9
  show gJ _ _ _ _ _ _ _ [] _ _
  refine gj_aload_n (pc' := 5) dX11_peaces_4 rfl rfl ?_
  refine gf_X11_166 (pc' := 8) dX11_peaces_5 rfl (by first | rfl | assumption) rfl ?_
  rw [hH2]
  first | refine gj_ifB_ne (pc' := 11) (tgt := 17) dX11_peaces_8 (by decide) rfl (fun c8 => ?_) (fun c8 => ?_) | refine gj_if_ne (pc' := 11) (tgt := 17) dX11_peaces_8 (by decide) rfl (by omega) (fun c8 => ?_) (fun c8 => ?_)
  · first | have g8 := of_decide_eq_true c8 | have g8 := of_decide_eq_false c8 | skip
    have hM : MI (mG h) T S := hQ.mi (by omega)
    refine gj_aload_n (pc' := 18) dX11_peaces_17 rfl rfl ?_
    refine gc_X11_328 (pc' := 21) dX11_peaces_18 rfl (m_seekPeace hM) rfl (by first | rfl | assumption) (by decide) rfl (Nat.le_of_ble_eq_true rfl) (fun v9 h9 q9 => ?_)
    obtain ⟨rfl, r1, r2, r3, r4, r5, r6⟩ := q9
    obtain ⟨hd, rfl⟩ : ∃ x, x = h9 := ⟨h9, rfl⟩
    show gJ _ _ _ _ _ _ _ [] _ _
    refine gj_aload_n (pc' := 22) dX11_peaces_21 rfl rfl ?_
    refine gf_X11_320 (pc' := 25) dX11_peaces_22 rfl (by first | rfl | assumption) rfl ?_
    rw [r5]
    refine gj_iret rfl dX11_peaces_25 ?_
    exact qM_i (tr := 0) (by unfold aTown; rw [if_pos (by omega)]) (MS.seek2 r1 r2 r3) ((r3 11 (by decide) (by decide)).trans rfl)
  · first | have g8 := of_decide_eq_true c8 | have g8 := of_decide_eq_false c8 | skip
    refine gj_aload_n (pc' := 12) dX11_peaces_11 rfl rfl ?_
    refine gj_iconst (pc' := 13) dX11_peaces_12 rfl ?_
    refine gc_X11_156 (pc' := 16) dX11_peaces_13 rfl (m_no) rfl (by first | rfl | assumption) (by decide) rfl (Nat.le_of_ble_eq_true rfl) (fun v9 h9 q9 => ?_)
    obtain ⟨rfl, rfl⟩ := q9
    show gJ _ _ _ _ _ _ _ (.int (zI (-1)) :: _) _ _
    refine gj_iret rfl dX11_peaces_16 ?_
    exact qM_n (by unfold aTown; rw [if_neg (by omega)])
theorem m_mate {h : gH} {T S : Nat → Nat} {a : Int} (hQ : mQ h T S) (ha : inB a) : gSp 16 yX11_mate cX11_mate 2 (some .int) [.ref 142, .int (zI a)] h (qM (aBi T a (fun n => pMate T S n)).1 (aBi T a (fun n => pMate T S n)).2 h) := by
  obtain ⟨hA, hH, hZ, -⟩ := id hQ
  have hH2 : (mG h).1 142 14 = bI (decide (T 3 ≠ 0)) := hH
  have ha2 := ha
  unfold inB at ha2
  refine gSp_of (by decide +kernel) (Nat.le_of_ble_eq_true rfl) ?_
  show gJ RX11 cX11_mate 2 (some .int) _ 0 [some (.ref 142), some (.int (zI a))] [] _ _
  refine gj_aload_n (pc' := 1) dX11_mate_0 rfl rfl ?_
  refine gc_X11_153 (pc' := 4) dX11_mate_1 rfl (m_good) rfl (by first | rfl | assumption) (by decide) rfl (Nat.le_of_ble_eq_true rfl) (fun v9 h9 q9 => ?_)
  obtain ⟨rfl, rfl⟩ := q9
  show gJ _ _ _ _ _ _ _ [] _ _
  refine gj_aload_n (pc' := 5) dX11_mate_4 rfl rfl ?_
  refine gj_iload_n (pc' := 6) dX11_mate_5 rfl rfl ?_
  refine gr_X11_286 (pc' := 9) dX11_mate_6 rfl (m_isBirdQ hQ.g ha) rfl (by first | rfl | assumption) (by decide) rfl (Nat.le_of_ble_eq_true rfl) ?_
  first | refine gj_ifB_ne (pc' := 12) (tgt := 18) dX11_mate_9 (by decide) rfl (fun c9 => ?_) (fun c9 => ?_) | refine gj_if_ne (pc' := 12) (tgt := 18) dX11_mate_9 (by decide) rfl (by omega) (fun c9 => ?_) (fun c9 => ?_)
  · first | have g9 := of_decide_eq_true c9 | have g9 := of_decide_eq_false c9 | skip
    obtain ⟨n, rfl⟩ : ∃ n : Nat, a = (n : Int) := ⟨a.toNat, by omega⟩
    have hM : MI (mG h) T S := hQ.mi (by omega)
    obtain ⟨hA2, hT, hS⟩ := id hM
    have h4 : T 4 ≤ 7 := hT.2.2.2.2.1
    have g19 := sv19 hT hS
    refine gj_aload_n (pc' := 19) dX11_mate_18 rfl rfl ?_
    refine gc_X11_328 (pc' := 22) dX11_mate_19 rfl (m_seekPeace hM) rfl (by first | rfl | assumption) (by decide) rfl (Nat.le_of_ble_eq_true rfl) (fun v9 h9 q9 => ?_)
    obtain ⟨rfl, r1, r2, r3, r4, r5, r6⟩ := q9
    obtain ⟨hd, rfl⟩ : ∃ x, x = h9 := ⟨h9, rfl⟩
    have hM3 : MI hd T S := hM.nt (r2 145 (by decide) (by decide) (by decide)) (r2 147 (by decide) (by decide) (by decide))
    show gJ _ _ _ _ _ _ _ [] _ _
    refine gj_aload_n (pc' := 23) dX11_mate_22 rfl rfl ?_
    refine gj_iload_n (pc' := 24) dX11_mate_23 rfl rfl ?_
    refine gr_X11_262 (pc' := 27) dX11_mate_24 rfl (m_isGone hM3.1 g19 (by omega)) rfl (by first | rfl | assumption) (by decide) rfl (Nat.le_of_ble_eq_true rfl) ?_
    first | refine gj_ifB_eq (pc' := 30) (tgt := 35) dX11_mate_27 (by decide) rfl (fun c27 => ?_) (fun c27 => ?_) | refine gj_if_eq (pc' := 30) (tgt := 35) dX11_mate_27 (by decide) rfl (by omega) (fun c27 => ?_) (fun c27 => ?_)
    · first | have g27 := of_decide_eq_true c27 | have g27 := of_decide_eq_false c27 | skip
      refine gj_aload_n (pc' := 36) dX11_mate_35 rfl rfl ?_
      refine gf_X11_38 (pc' := 39) dX11_mate_36 rfl (by first | rfl | assumption) rfl ?_
      refine gj_iload_n (pc' := 40) dX11_mate_39 rfl rfl ?_
      refine gj_iald (pc' := 41) (j := n) (by first | rfl | assumption) (by omega) (by omega) (by decide) dX11_mate_40 rfl ?_
      rw [r6 n (by omega) c27]
      refine gj_iret rfl dX11_mate_41 ?_
      by_cases q : sGone S n = true
      · have e : pMate T S n = -2 := by unfold pMate; rw [if_pos q]
        first
        | exact absurd (q.symm.trans c27) (by decide)
        | exact qM_i (a := -2) (tr := 0) (by unfold aBi; rw [if_pos (by omega), Int.toNat_natCast]; show (pMate T S n, (0 : Int)) = _; rw [e]) (MS.seek2 r1 r2 r3) ((r3 11 (by decide) (by decide)).trans rfl)
      · have e : pMate T S n = (pz T S (T 4) (nPr T S)).2.2 n := by unfold pMate; rw [if_neg q]
        first
        | exact absurd c27 q
        | exact qM_i (tr := 0) (by unfold aBi; rw [if_pos (by omega), Int.toNat_natCast]; show (pMate T S n, (0 : Int)) = _; rw [e]) (MS.seek2 r1 r2 r3) ((r3 11 (by decide) (by decide)).trans rfl)
    · first | have g27 := of_decide_eq_true c27 | have g27 := of_decide_eq_false c27 | skip
      refine gj_bipush (pc' := 32) dX11_mate_30 rfl (by decide) ?_
      refine gj_goto (pc' := 41) dX11_mate_32 (by decide) ?_
      refine gj_iret rfl dX11_mate_41 ?_
      by_cases q : sGone S n = true
      · have e : pMate T S n = -2 := by unfold pMate; rw [if_pos q]
        first
        | exact absurd (q.symm.trans c27) (by decide)
        | exact qM_i (a := -2) (tr := 0) (by unfold aBi; rw [if_pos (by omega), Int.toNat_natCast]; show (pMate T S n, (0 : Int)) = _; rw [e]) (MS.seek2 r1 r2 r3) ((r3 11 (by decide) (by decide)).trans rfl)
      · have e : pMate T S n = (pz T S (T 4) (nPr T S)).2.2 n := by unfold pMate; rw [if_neg q]
        first
        | exact absurd c27 q
        | exact qM_i (tr := 0) (by unfold aBi; rw [if_pos (by omega), Int.toNat_natCast]; show (pMate T S n, (0 : Int)) = _; rw [e]) (MS.seek2 r1 r2 r3) ((r3 11 (by decide) (by decide)).trans rfl)
  · first | have g9 := of_decide_eq_true c9 | have g9 := of_decide_eq_false c9 | skip
    refine gj_aload_n (pc' := 13) dX11_mate_12 rfl rfl ?_
    refine gj_iconst (pc' := 14) dX11_mate_13 rfl ?_
    refine gc_X11_156 (pc' := 17) dX11_mate_14 rfl (m_no) rfl (by first | rfl | assumption) (by decide) rfl (Nat.le_of_ble_eq_true rfl) (fun v9 h9 q9 => ?_)
    obtain ⟨rfl, rfl⟩ := q9
    show gJ _ _ _ _ _ _ _ (.int (zI (-1)) :: _) _ _
    refine gj_iret rfl dX11_mate_17 ?_
    exact qM_n (by unfold aBi; rw [if_neg (by omega)])
theorem x_peace {h : gH} {t : Nat} {T S : Nat → Nat} (hQ : XQ h t T S) : gSp 12 yX10_peace cX10_peace 1 (some .int) [.ref 0] h (qX (aTown T ((pz T S (T 4) (nPr T S)).1 : Nat)).1 (aTown T ((pz T S (T 4) (nPr T S)).1 : Nat)).2 h) := by
  obtain ⟨ht, hP, hF, hZ, -⟩ := id hQ
  refine gSp_of (by decide +kernel) (Nat.le_of_ble_eq_true rfl) ?_
  show gJ RX10 cX10_peace 1 (some .int) _ 0 [some (.ref 0)] [] _ _
  refine gj_aload_n (pc' := 1) dX10_peace_0 rfl rfl ?_
  refine gr_X10_169 (pc' := 4) dX10_peace_1 rfl (x_hasTown hQ) rfl (by first | rfl | assumption) (by decide) rfl (Nat.le_of_ble_eq_true rfl) ?_
  first | refine gj_ifB_eq (pc' := 7) (tgt := 29) dX10_peace_4 (by decide) rfl (fun c4 => ?_) (fun c4 => ?_) | refine gj_if_eq (pc' := 7) (tgt := 29) dX10_peace_4 (by decide) rfl (by omega) (fun c4 => ?_) (fun c4 => ?_)
  · first | have g4 := of_decide_eq_true c4 | have g4 := of_decide_eq_false c4 | skip
    refine gj_aload_n (pc' := 30) dX10_peace_29 rfl rfl ?_
    refine gj_iconst (pc' := 31) dX10_peace_30 rfl ?_
    refine gc_X10_72 (pc' := 34) dX10_peace_31 rfl (x_refuse) rfl (by first | rfl | assumption) (by decide) rfl (Nat.le_of_ble_eq_true rfl) (fun v9 h9 q9 => ?_)
    obtain ⟨rfl, q9a, q9b⟩ := q9
    show gJ _ _ _ _ _ _ _ (.int (zI (-1)) :: _) _ _
    refine gj_iret rfl dX10_peace_34 ?_
    first
    | exact qX_i (by unfold aTown; rw [if_pos (by omega)]) (XS.tr ⟨d0, fun o _ o1 o2 _ _ _ _ _ => d1 o o1 o2, fun k _ => congrFun (d1 0 (by decide) (by decide)) k⟩ q9a) q9b
    | exact qX_i (by unfold aTown; rw [if_neg (by omega)]) q9a q9b
  · first | have g4 := of_decide_eq_true c4 | have g4 := of_decide_eq_false c4 | skip
    have hI := hQ.ci (by omega)
    refine gj_aload_n (pc' := 8) dX10_peace_7 rfl rfl ?_
    refine gj_aload_n (pc' := 9) dX10_peace_8 rfl rfl ?_
    refine gf_X10_33 (pc' := 12) dX10_peace_9 rfl (by first | rfl | assumption) rfl ?_
    refine gj_aload_n (pc' := 13) dX10_peace_12 rfl rfl ?_
    refine gf_X10_54 (pc' := 16) dX10_peace_13 rfl (by first | rfl | assumption) rfl ?_
    rw [hP]
    refine gj_aload_n (pc' := 17) dX10_peace_16 rfl rfl ?_
    refine gf_X10_19 (pc' := 20) dX10_peace_17 rfl (by first | rfl | assumption) rfl ?_
    refine gc_X10_227 (pc' := 23) dX10_peace_20 rfl (s_cheapest hI) rfl (by first | rfl | assumption) (by decide) rfl (Nat.le_of_ble_eq_true rfl) (fun v9 h9 q9 => ?_)
    obtain ⟨rfl, d0, d1⟩ := q9
    obtain ⟨hd, rfl⟩ : ∃ x, x = h9 := ⟨h9, rfl⟩
    show gJ _ _ _ _ _ _ _ (.int (zI _) :: _) _ _
    refine gc_X10_105 (pc' := 26) dX10_peace_23 rfl (x_grant) rfl (by first | rfl | assumption) (by decide) rfl (Nat.le_of_ble_eq_true rfl) (fun v9 h9 q9 => ?_)
    obtain ⟨rfl, q9a, q9b⟩ := q9
    show gJ _ _ _ _ _ _ _ (.int (zI _) :: _) _ _
    refine gj_goto (pc' := 34) dX10_peace_26 (by decide) ?_
    refine gj_iret rfl dX10_peace_34 ?_
    first
    | exact qX_i (by unfold aTown; rw [if_pos (by omega)]) (XS.tr ⟨d0, fun o _ o1 o2 _ _ _ _ _ => d1 o o1 o2, fun k _ => congrFun (d1 0 (by decide) (by decide)) k⟩ q9a) q9b
    | exact qX_i (by unfold aTown; rw [if_neg (by omega)]) q9a q9b
theorem x_peaces {h : gH} {t : Nat} {T S : Nat → Nat} (hQ : XQ h t T S) : gSp 12 yX10_peaces cX10_peaces 1 (some .int) [.ref 0] h (qX (aTown T ((pz T S (T 4) (nPr T S)).2.1 : Nat)).1 (aTown T ((pz T S (T 4) (nPr T S)).2.1 : Nat)).2 h) := by
  obtain ⟨ht, hP, hF, hZ, -⟩ := id hQ
  refine gSp_of (by decide +kernel) (Nat.le_of_ble_eq_true rfl) ?_
  show gJ RX10 cX10_peaces 1 (some .int) _ 0 [some (.ref 0)] [] _ _
  refine gj_aload_n (pc' := 1) dX10_peaces_0 rfl rfl ?_
  refine gr_X10_169 (pc' := 4) dX10_peaces_1 rfl (x_hasTown hQ) rfl (by first | rfl | assumption) (by decide) rfl (Nat.le_of_ble_eq_true rfl) ?_
  first | refine gj_ifB_eq (pc' := 7) (tgt := 29) dX10_peaces_4 (by decide) rfl (fun c4 => ?_) (fun c4 => ?_) | refine gj_if_eq (pc' := 7) (tgt := 29) dX10_peaces_4 (by decide) rfl (by omega) (fun c4 => ?_) (fun c4 => ?_)
  · first | have g4 := of_decide_eq_true c4 | have g4 := of_decide_eq_false c4 | skip
    refine gj_aload_n (pc' := 30) dX10_peaces_29 rfl rfl ?_
    refine gj_iconst (pc' := 31) dX10_peaces_30 rfl ?_
    refine gc_X10_72 (pc' := 34) dX10_peaces_31 rfl (x_refuse) rfl (by first | rfl | assumption) (by decide) rfl (Nat.le_of_ble_eq_true rfl) (fun v9 h9 q9 => ?_)
    obtain ⟨rfl, q9a, q9b⟩ := q9
    show gJ _ _ _ _ _ _ _ (.int (zI (-1)) :: _) _ _
    refine gj_iret rfl dX10_peaces_34 ?_
    first
    | exact qX_i (by unfold aTown; rw [if_pos (by omega)]) (XS.tr ⟨d0, fun o _ o1 o2 _ _ _ _ _ => d1 o o1 o2, fun k _ => congrFun (d1 0 (by decide) (by decide)) k⟩ q9a) q9b
    | exact qX_i (by unfold aTown; rw [if_neg (by omega)]) q9a q9b
  · first | have g4 := of_decide_eq_true c4 | have g4 := of_decide_eq_false c4 | skip
    have hI := hQ.ci (by omega)
    refine gj_aload_n (pc' := 8) dX10_peaces_7 rfl rfl ?_
    refine gj_aload_n (pc' := 9) dX10_peaces_8 rfl rfl ?_
    refine gf_X10_33 (pc' := 12) dX10_peaces_9 rfl (by first | rfl | assumption) rfl ?_
    refine gj_aload_n (pc' := 13) dX10_peaces_12 rfl rfl ?_
    refine gf_X10_54 (pc' := 16) dX10_peaces_13 rfl (by first | rfl | assumption) rfl ?_
    rw [hP]
    refine gj_aload_n (pc' := 17) dX10_peaces_16 rfl rfl ?_
    refine gf_X10_19 (pc' := 20) dX10_peaces_17 rfl (by first | rfl | assumption) rfl ?_
    refine gc_X10_234 (pc' := 23) dX10_peaces_20 rfl (s_cheapRows hI) rfl (by first | rfl | assumption) (by decide) rfl (Nat.le_of_ble_eq_true rfl) (fun v9 h9 q9 => ?_)
    obtain ⟨rfl, d0, d1⟩ := q9
    obtain ⟨hd, rfl⟩ : ∃ x, x = h9 := ⟨h9, rfl⟩
    show gJ _ _ _ _ _ _ _ (.int (zI _) :: _) _ _
    refine gc_X10_105 (pc' := 26) dX10_peaces_23 rfl (x_grant) rfl (by first | rfl | assumption) (by decide) rfl (Nat.le_of_ble_eq_true rfl) (fun v9 h9 q9 => ?_)
    obtain ⟨rfl, q9a, q9b⟩ := q9
    show gJ _ _ _ _ _ _ _ (.int (zI _) :: _) _ _
    refine gj_goto (pc' := 34) dX10_peaces_26 (by decide) ?_
    refine gj_iret rfl dX10_peaces_34 ?_
    first
    | exact qX_i (by unfold aTown; rw [if_pos (by omega)]) (XS.tr ⟨d0, fun o _ o1 o2 _ _ _ _ _ => d1 o o1 o2, fun k _ => congrFun (d1 0 (by decide) (by decide)) k⟩ q9a) q9b
    | exact qX_i (by unfold aTown; rw [if_neg (by omega)]) q9a q9b
theorem x_mate {h : gH} {t : Nat} {T S : Nat → Nat} {a : Int} (hQ : XQ h t T S) (ha : inB a) : gSp 12 yX10_mate cX10_mate 2 (some .int) [.ref 0, .int (zI a)] h (qX (aBi T a (fun n => pMate T S n)).1 (aBi T a (fun n => pMate T S n)).2 h) := by
  obtain ⟨ht, hP, hF, hZ, -⟩ := id hQ
  have ha2 := ha; unfold inB at ha2
  refine gSp_of (by decide +kernel) (Nat.le_of_ble_eq_true rfl) ?_
  show gJ RX10 cX10_mate 2 (some .int) _ 0 [some (.ref 0), some (.int (zI a))] [] _ _
  refine gj_aload_n (pc' := 1) dX10_mate_0 rfl rfl ?_
  refine gj_iload_n (pc' := 2) dX10_mate_1 rfl rfl ?_
  refine gr_X10_134 (pc' := 5) dX10_mate_2 rfl (x_isBird hQ ha) rfl (by first | rfl | assumption) (by decide) rfl (Nat.le_of_ble_eq_true rfl) ?_
  first | refine gj_ifB_eq (pc' := 8) (tgt := 31) dX10_mate_5 (by decide) rfl (fun c5 => ?_) (fun c5 => ?_) | refine gj_if_eq (pc' := 8) (tgt := 31) dX10_mate_5 (by decide) rfl (by omega) (fun c5 => ?_) (fun c5 => ?_)
  · first | have g5 := of_decide_eq_true c5 | have g5 := of_decide_eq_false c5 | skip
    refine gj_aload_n (pc' := 32) dX10_mate_31 rfl rfl ?_
    refine gj_iconst (pc' := 33) dX10_mate_32 rfl ?_
    refine gc_X10_72 (pc' := 36) dX10_mate_33 rfl (x_refuse) rfl (by first | rfl | assumption) (by decide) rfl (Nat.le_of_ble_eq_true rfl) (fun v9 h9 q9 => ?_)
    obtain ⟨rfl, q9a, q9b⟩ := q9
    show gJ _ _ _ _ _ _ _ (.int (zI (-1)) :: _) _ _
    refine gj_iret rfl dX10_mate_36 ?_
    first
    | exact qX_i (by unfold aBi; rw [if_pos (by omega), Int.toNat_natCast]) (XS.tr ⟨d0, fun o _ o1 o2 _ _ _ _ _ => d1 o o1 o2, fun k _ => congrFun (d1 0 (by decide) (by decide)) k⟩ q9a) q9b
    | exact qX_i (by unfold aBi; rw [if_neg (by omega)]) q9a q9b
  · first | have g5 := of_decide_eq_true c5 | have g5 := of_decide_eq_false c5 | skip
    obtain ⟨n, rfl⟩ : ∃ n : Nat, a = (n : Int) := ⟨a.toNat, by omega⟩
    have hI := hQ.ci (by omega)
    refine gj_aload_n (pc' := 9) dX10_mate_8 rfl rfl ?_
    refine gj_aload_n (pc' := 10) dX10_mate_9 rfl rfl ?_
    refine gf_X10_33 (pc' := 13) dX10_mate_10 rfl (by first | rfl | assumption) rfl ?_
    refine gj_aload_n (pc' := 14) dX10_mate_13 rfl rfl ?_
    refine gf_X10_54 (pc' := 17) dX10_mate_14 rfl (by first | rfl | assumption) rfl ?_
    rw [hP]
    refine gj_aload_n (pc' := 18) dX10_mate_17 rfl rfl ?_
    refine gf_X10_19 (pc' := 21) dX10_mate_18 rfl (by first | rfl | assumption) rfl ?_
    refine gj_iload_n (pc' := 22) dX10_mate_21 rfl rfl ?_
    refine gc_X10_231 (pc' := 25) dX10_mate_22 rfl (s_partnerOf hI (by omega)) rfl (by first | rfl | assumption) (by decide) rfl (Nat.le_of_ble_eq_true rfl) (fun v9 h9 q9 => ?_)
    obtain ⟨rfl, d0, d1⟩ := q9
    obtain ⟨hd, rfl⟩ : ∃ x, x = h9 := ⟨h9, rfl⟩
    show gJ _ _ _ _ _ _ _ (.int (zI _) :: _) _ _
    refine gc_X10_105 (pc' := 28) dX10_mate_25 rfl (x_grant) rfl (by first | rfl | assumption) (by decide) rfl (Nat.le_of_ble_eq_true rfl) (fun v9 h9 q9 => ?_)
    obtain ⟨rfl, q9a, q9b⟩ := q9
    show gJ _ _ _ _ _ _ _ (.int (zI _) :: _) _ _
    refine gj_goto (pc' := 36) dX10_mate_28 (by decide) ?_
    refine gj_iret rfl dX10_mate_36 ?_
    first
    | exact qX_i (by unfold aBi; rw [if_pos (by omega), Int.toNat_natCast]) (XS.tr ⟨d0, fun o _ o1 o2 _ _ _ _ _ => d1 o o1 o2, fun k _ => congrFun (d1 0 (by decide) (by decide)) k⟩ q9a) q9b
    | exact qX_i (by unfold aBi; rw [if_neg (by omega)]) q9a q9b
