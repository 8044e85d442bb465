/-! the acts: the model's book -/
theorem m_copy {h : gH} {o p o2 q n N1 N2 : Nat} (ho : shp o = .inr (0, N1, 0, 0)) (ho2 : shp o2 = .inr (0, N2, 0, 0)) (hne : o ≠ o2) (h1 : p + n ≤ N1) (h2 : q + n ≤ N2) (hN1 : N1 < 100000) (hN2 : N2 < 100000) : gSp 1 yX11_copy cX11_copy 6 none [.ref o, .int (zI (p : Int)), .ref o2, .int (zI (q : Int)), .int (zI (n : Int))] h (fun v h' => v = none ∧ h'.2 = h.2 ∧ (∀ a, a ≠ o2 → h'.1 a = h.1 a) ∧ ∀ j, h'.1 o2 j = if q ≤ j ∧ j < q + n then h.1 o (p + (j - q)) else h.1 o2 j) := by
  refine gSp_of (by decide +kernel) (Nat.le_of_ble_eq_true rfl) ?_
  show gJ RX11 cX11_copy 6 none _ 0 [some (.ref o), some (.int (zI (p : Int))), some (.ref o2), some (.int (zI (q : Int))), some (.int (zI (n : Int))), none] [] _ _
  refine gj_iconst (pc' := 1) dX11_copy_0 rfl ?_
  refine gj_istore (pc' := 3) dX11_copy_1 rfl (by decide) ?_
  refine gJ_wk (gJ_fH0 (L := fun b  => [some (.ref o), some (.int (zI (p : Int))), some (.ref o2), some (.int (zI (q : Int))), some (.int (zI (n : Int))), some (.int (zI (b : Int)))]) (I := fun b  hp => hp.2 = h.2 ∧ (∀ a, a ≠ o2 → hp.1 a = h.1 a) ∧ ∀ j, hp.1 o2 j = if q ≤ j ∧ j < q + b then h.1 o (p + (j - q)) else h.1 o2 j) (n) (fun b  hp hb_b iv_b ih_b => ?step_1) (0) (Nat.zero_le _)  _ ?iv0_1) ?ll0_1
  case ll0_1 =>
    repeat' (first | exact True.intro | with_reducible exact rfl | refine And.intro ?_ ?_ | refine vI ?_ | refine vL ?_)
    all_goals first | rfl | omega
  case iv0_1 =>
    exact ⟨rfl, fun _ _ => rfl, fun j => by rw [if_neg (by omega)]⟩
  obtain ⟨i1, i2, i3⟩ := iv_b
  refine gj_iload (pc' := 5) dX11_copy_3 rfl rfl ?_
  refine gj_iload (pc' := 7) dX11_copy_5 rfl rfl ?_
  refine gj_icmp_ge (pc' := 10) (tgt := 28) dX11_copy_7 (by decide) rfl (by omega) (fun c7 => ?_) (fun c7 => ?_)
  · refine gj_vret rfl dX11_copy_28 ?_
    have hbn : b = n := by omega
    subst hbn
    exact ⟨rfl, i1, i2, i3⟩
  · refine gj_aload_n (pc' := 11) dX11_copy_10 rfl rfl ?_
    refine gj_iload_n (pc' := 12) dX11_copy_11 rfl rfl ?_
    refine gj_iload (pc' := 14) dX11_copy_12 rfl rfl ?_
    refine gj_iadd (pc' := 15) dX11_copy_14 rfl ?_
    refine gj_aload_n (pc' := 16) dX11_copy_15 rfl rfl ?_
    refine gj_iload_n (pc' := 17) dX11_copy_16 rfl rfl ?_
    refine gj_iload (pc' := 19) dX11_copy_17 rfl rfl ?_
    refine gj_iadd (pc' := 20) dX11_copy_19 rfl ?_
    refine gj_iald (pc' := 21) (j := p + b) (by first | rfl | assumption) (by omega) (by omega) (by first | assumption | decide) dX11_copy_20 rfl ?_
    rw [i2 o hne]
    refine gj_iast (pc' := 22) (j := q + b) (by first | rfl | assumption) (by omega) (by omega) (by first | assumption | decide) dX11_copy_21 rfl ?_
    refine gj_iinc (pc' := 25) dX11_copy_22 rfl rfl (by decide) ?_
    refine gj_goto (pc' := 3) dX11_copy_25 (by decide) ?_
    refine gJ_wk (ih_b  _ (by omega) ?iv_2) ?ll_2
    case ll_2 =>
      repeat' (first | exact True.intro | with_reducible exact rfl | refine And.intro ?_ ?_ | refine vI ?_ | refine vL ?_)
      all_goals omega
    refine ⟨i1, fun a ha => (gui_n ha).trans (i2 a ha), fun j => ?_⟩
    rw [gui_s]
    by_cases c : j = q + b
    · rw [c, up1_s, if_pos (by omega), show p + (q + b - q) = p + b by omega]
    · rw [up1_n c, i3 j]
      by_cases c2 : q ≤ j ∧ j < q + b
      · rw [if_pos c2, if_pos (by omega)]
      · rw [if_neg c2, if_neg (by omega)]
theorem m_isNot {h : gH} {w : Int} : gSp 1 yX11_isNot cX11_isNot 2 (some .boolean) [.ref 142, .int (zI w)] h (fun v h' => v = some (.int (zI 0)) ∧ h' = gui h 142 11 w) := by
  refine gSp_of (by decide +kernel) (Nat.le_of_ble_eq_true rfl) ?_
  show gJ RX11 cX11_isNot 2 (some .boolean) _ 0 [some (.ref 142), some (.int (zI w))] [] _ _
  refine gj_aload_n (pc' := 1) dX11_isNot_0 rfl rfl ?_
  refine gj_iload_n (pc' := 2) dX11_isNot_1 rfl rfl ?_
  refine gp_X11_56 (pc' := 5) dX11_isNot_2 rfl (by first | rfl | assumption) rfl ?_
  refine gj_iconst (pc' := 6) dX11_isNot_5 rfl ?_
  refine gj_zret rfl (by first | rfl | exact gnZ _ | assumption) dX11_isNot_6 ?_
  exact ⟨rfl, rfl⟩
def MH (h : gH) (n : Nat) (U : Nat → Nat → Nat) (m : Nat) (K : Nat → Nat → Nat) : Prop := h.1 142 20 = (n : Int) ∧ h.1 142 21 = (m : Int) ∧ n ≤ 16 ∧ m ≤ 3 ∧ (∀ k, k < n → ∀ j, j < 22 → h.1 148 (22 * k + j) = (U k j : Int)) ∧ (∀ i, i < m → ∀ j, j < 22 → h.1 149 (22 * i + j) = (K i j : Int))
theorem m_note49 {g : gH} {S : Nat → Nat} {n : Nat} {Q : Option Value → gH → Prop} (hn : n < 16) (e20 : g.1 142 20 = (n : Int)) (hS : ∀ j, j < 22 → g.1 147 j = (S j : Int)) (kk : ∀ h' : gH, h'.2 = g.2 → (∀ a, a ≠ 142 → a ≠ 148 → h'.1 a = g.1 a) → (∀ k, k ≠ 20 → h'.1 142 k = g.1 142 k) → h'.1 142 20 = ((n + 1 : Nat) : Int) → (∀ j, j < 22 → h'.1 148 (22 * n + j) = (S j : Int)) → (∀ k, k < n → ∀ j, j < 22 → h'.1 148 (22 * k + j) = g.1 148 (22 * k + j)) → Q none h') : gJ RX11 cX11_note 2 none 4 49 [some (.ref 142), none] [] g Q := by
  refine gj_aload_n (pc' := 50) dX11_note_49 rfl rfl ?_
  refine gf_X11_26 (pc' := 53) dX11_note_50 rfl (by first | rfl | assumption) rfl ?_
  refine gj_iconst (pc' := 54) dX11_note_53 rfl ?_
  refine gj_aload_n (pc' := 55) dX11_note_54 rfl rfl ?_
  refine gf_X11_29 (pc' := 58) dX11_note_55 rfl (by first | rfl | assumption) rfl ?_
  refine gj_bipush (pc' := 60) dX11_note_58 rfl (by decide) ?_
  refine gj_aload_n (pc' := 61) dX11_note_60 rfl rfl ?_
  refine gf_X11_169 (pc' := 64) dX11_note_61 rfl (by first | rfl | assumption) rfl ?_
  rw [e20]
  refine gj_imul (pc' := 65) dX11_note_64 rfl ?_
  rw [show (22 : Int) * (n : Int) = ((22 * n : Nat) : Int) by omega]
  refine gj_bipush (pc' := 67) dX11_note_65 rfl (by decide) ?_
  refine gc_X11_162 (pc' := 70) dX11_note_67 rfl (m_copy (o := 147) (p := 0) (o2 := 148) (q := 22 * n) (n := 22) rfl rfl (by decide) (by decide) (by omega) (by decide) (by decide)) rfl (by decide) rfl (Nat.le_of_ble_eq_true rfl) (fun v9 h9 q9 => ?_)
  obtain ⟨rfl, q0, q1, q2⟩ := q9
  show gJ _ _ _ _ _ _ _ [] _ _
  refine gj_aload_n (pc' := 71) dX11_note_70 rfl rfl ?_
  refine gj_dup (pc' := 72) dX11_note_71 rfl rfl ?_
  refine gf_X11_169 (pc' := 75) dX11_note_72 rfl (by first | rfl | assumption) rfl ?_
  rw [q1 142 (by decide), e20]
  refine gj_iconst (pc' := 76) dX11_note_75 rfl ?_
  refine gj_iadd (pc' := 77) dX11_note_76 rfl ?_
  refine gp_X11_169 (pc' := 80) dX11_note_77 rfl (by first | rfl | assumption) rfl ?_
  refine gj_vret rfl dX11_note_80 ?_
  refine kk _ q0 (fun a a1 a2 => (gui_n a1).trans (q1 a a2)) (fun k hk => ?_) ?_ (fun j hj => ?_) (fun k hk j hj => ?_)
  · rw [gui_s, up1_n hk, q1 142 (by decide)]
  · rw [gui_s, up1_s]; omega
  · rw [gui_n (by decide), q2, if_pos (by omega), show 0 + (22 * n + j - 22 * n) = j by omega]; exact hS j hj
  · rw [gui_n (by decide), q2, if_neg (by omega)]
theorem m_note {h : gH} {S : Nat → Nat} {n m : Nat} {U K : Nat → Nat → Nat} (hS : ∀ j, j < 22 → h.1 147 j = (S j : Int)) (hH : MH h n U m K) : gSp 4 yX11_note cX11_note 2 none [.ref 142] h (fun v h' => v = none ∧ h'.2 = h.2 ∧ (∀ a, a ≠ 142 → a ≠ 148 → h'.1 a = h.1 a) ∧ (∀ k, k ≠ 20 → h'.1 142 k = h.1 142 k) ∧ MH h' (uPn n) (uP n U S) m K) := by
  obtain ⟨e20, e21, hn, hm, hU, hK⟩ := hH
  by_cases hn16 : n = 16
  · subst hn16
    refine gSp_of (by decide +kernel) (Nat.le_of_ble_eq_true rfl) ?_
    show gJ RX11 cX11_note 2 none _ 0 [some (.ref 142), none] [] _ _
    refine gj_aload_n (pc' := 1) dX11_note_0 rfl rfl ?_
    refine gf_X11_169 (pc' := 4) dX11_note_1 rfl (by first | rfl | assumption) rfl ?_
    rw [e20]
    refine gj_bipush (pc' := 6) dX11_note_4 rfl (by decide) ?_
    refine gj_icmp_ne (pc' := 9) (tgt := 49) dX11_note_6 (by decide) rfl (by omega) (fun c6 => ?_) (fun c6 => ?_)
    · exfalso; omega
    · refine gj_iconst (pc' := 10) dX11_note_9 rfl ?_
      refine gj_istore_n (pc' := 11) dX11_note_10 rfl (by decide) ?_
      refine gJ_wk (gJ_fH0 (L := fun k  => [some (.ref 142), some (.int (zI (k : Int)))]) (I := fun k  hp => hp.2 = h.2 ∧ (∀ a, a ≠ 148 → hp.1 a = h.1 a) ∧ ∀ j, hp.1 148 j = if j < k then h.1 148 (j + 22) else h.1 148 j) (330) (fun k  hp hb_k iv_k ih_k => ?step_1) (0) (Nat.zero_le _)  _ ?iv0_1) ?ll0_1
      case ll0_1 =>
        repeat' (first | exact True.intro | with_reducible exact rfl | refine And.intro ?_ ?_ | refine vI ?_ | refine vL ?_)
        all_goals first | rfl | omega
      case iv0_1 =>
        exact ⟨rfl, fun _ _ => rfl, fun j => by rw [if_neg (by omega)]⟩
      obtain ⟨i1, i2, i3⟩ := iv_k
      refine gj_iload_n (pc' := 12) dX11_note_11 rfl rfl ?_
      refine gj_sipush (pc' := 15) dX11_note_12 rfl (by decide) ?_
      refine gj_icmp_ge (pc' := 18) (tgt := 39) dX11_note_15 (by decide) rfl (by omega) (fun c15 => ?_) (fun c15 => ?_)
      · refine gj_aload_n (pc' := 40) dX11_note_39 rfl rfl ?_
        refine gj_dup (pc' := 41) dX11_note_40 rfl rfl ?_
        refine gf_X11_169 (pc' := 44) dX11_note_41 rfl (by first | rfl | assumption) rfl ?_
        rw [i2 142 (by decide), e20]
        refine gj_iconst (pc' := 45) dX11_note_44 rfl ?_
        refine gj_isub (pc' := 46) dX11_note_45 rfl ?_
        refine gp_X11_169 (pc' := 49) dX11_note_46 rfl (by first | rfl | assumption) rfl ?_
        refine gJ_wk (m_note49 (S := S) (n := 15) (by decide) (by rw [gui_s, up1_s]; rfl) (fun j hj => by rw [gui_n (by decide), i2 147 (by decide)]; exact hS j hj) (fun h' a0 a1 a2 a3 a4 a5 => ?_)) ⟨rfl, trivial⟩
        refine ⟨rfl, a0.trans i1, fun a b1 b2 => (a1 a b1 b2).trans ((gui_n b1).trans (i2 a b2)), fun j hj => ?_, a3, ?_, by decide, hm, fun k2 hk2 j hj => ?_, fun i hi j hj => ?_⟩
        · rw [a2 j hj, gui_s, up1_n hj, i2 142 (by decide)]
        · rw [a2 21 (by decide), gui_s, up1_n (by decide), i2 142 (by decide)]; exact e21
        · have hk3 : k2 < 16 := hk2
          show _ = ((if (16 : Nat) = 16 then (if k2 = 15 then S else U (k2 + 1)) else _ : Nat → Nat) j : Int)
          rw [if_pos rfl]
          by_cases c : k2 = 15
          · rw [if_pos c, c]; exact a4 j hj
          · rw [if_neg c, a5 k2 (by omega) j hj, gui_n (by decide), i3, if_pos (by omega), show 22 * k2 + j + 22 = 22 * (k2 + 1) + j by omega]
            exact hU (k2 + 1) (by omega) j hj
        · rw [a1 149 (by decide) (by decide), gui_n (by decide), i2 149 (by decide)]
          exact hK i hi j hj
      · refine gj_aload_n (pc' := 19) dX11_note_18 rfl rfl ?_
        refine gf_X11_29 (pc' := 22) dX11_note_19 rfl (by first | rfl | assumption) rfl ?_
        refine gj_iload_n (pc' := 23) dX11_note_22 rfl rfl ?_
        refine gj_aload_n (pc' := 24) dX11_note_23 rfl rfl ?_
        refine gf_X11_29 (pc' := 27) dX11_note_24 rfl (by first | rfl | assumption) rfl ?_
        refine gj_iload_n (pc' := 28) dX11_note_27 rfl rfl ?_
        refine gj_bipush (pc' := 30) dX11_note_28 rfl (by decide) ?_
        refine gj_iadd (pc' := 31) dX11_note_30 rfl ?_
        refine gj_iald (pc' := 32) (j := k + 22) (by first | rfl | assumption) (by omega) (by omega) (by decide) dX11_note_31 rfl ?_
        rw [i3 (k + 22), if_neg (by omega)]
        refine gj_iast (pc' := 33) (by first | rfl | assumption) rfl (by omega) (by decide) dX11_note_32 rfl ?_
        refine gj_iinc (pc' := 36) dX11_note_33 rfl rfl (by decide) ?_
        refine gj_goto (pc' := 11) dX11_note_36 (by decide) ?_
        refine gJ_wk (ih_k  _ (by omega) ?iv_2) ?ll_2
        case ll_2 =>
          repeat' (first | exact True.intro | with_reducible exact rfl | refine And.intro ?_ ?_ | refine vI ?_ | refine vL ?_)
          all_goals omega
        refine ⟨i1, fun a ha => (gui_n ha).trans (i2 a ha), fun j => ?_⟩
        rw [gui_s]
        by_cases c : j = k
        · rw [c, up1_s, if_pos (by omega)]
        · rw [up1_n c, i3 j]
          by_cases c2 : j < k
          · rw [if_pos c2, if_pos (by omega)]
          · rw [if_neg c2, if_neg (by omega)]
  · refine gSp_of (by decide +kernel) (Nat.le_of_ble_eq_true rfl) ?_
    show gJ RX11 cX11_note 2 none _ 0 [some (.ref 142), none] [] _ _
    refine gj_aload_n (pc' := 1) dX11_note_0 rfl rfl ?_
    refine gf_X11_169 (pc' := 4) dX11_note_1 rfl (by first | rfl | assumption) rfl ?_
    rw [e20]
    refine gj_bipush (pc' := 6) dX11_note_4 rfl (by decide) ?_
    refine gj_icmp_ne (pc' := 9) (tgt := 49) dX11_note_6 (by decide) rfl (by omega) (fun c6 => ?_) (fun c6 => ?_)
    · refine gJ_wk (m_note49 (S := S) (n := n) (by omega) e20 hS (fun h' a0 a1 a2 a3 a4 a5 => ?_)) ⟨rfl, trivial⟩
      refine ⟨rfl, a0, a1, a2, by rw [a3]; unfold uPn; rw [if_neg hn16], ?_, by unfold uPn; rw [if_neg hn16]; omega, hm, fun k2 hk2 j hj => ?_, fun i hi j hj => ?_⟩
      · rw [a2 21 (by decide)]; exact e21
      · have hk3 : k2 < n + 1 := by unfold uPn at hk2; rw [if_neg hn16] at hk2; exact hk2
        unfold uP
        rw [if_neg hn16]
        by_cases c : k2 = n
        · rw [if_pos c, c]; exact a4 j hj
        · rw [if_neg c, a5 k2 (by omega) j hj]
          exact hU k2 (by omega) j hj
      · rw [a1 149 (by decide) (by decide)]
        exact hK i hi j hj
    · exfalso; omega
