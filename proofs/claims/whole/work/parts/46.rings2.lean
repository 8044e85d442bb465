/-! rings: steps, the shortest, its members: the class -/
theorem rgW.to {h h' : gH} {T S : Nat → Nat} (a : rgW h T S) (e : h'.1 139 = h.1 139) : rgW h' T S := fun k hk => by rw [e]; exact a k hk
def rgQ (h : gH) (W : Nat → Nat → Bool) (N hh : Nat) : Prop := ∀ k, k < N → ∃ v : Nat, h.1 140 k = (v : Int) ∧ v ≤ 99 ∧ (v = 99 ∨ wk W N hh v k = true)
def rgC (h : gH) (W : Nat → Nat → Bool) (N hh r k : Nat) : Prop := ∀ n : Nat, n ≤ r → wk W N hh n k = true → h.1 140 k ≤ (n : Int)
theorem rg_up {h : gH} {W : Nat → Nat → Bool} {N hh k x : Nat} (hq : rgQ h W N hh) (hk : k < N) (hx : x < N) (hw : W k x = true) : rgQ (gui h 140 k (min (h.1 140 k) (h.1 140 x + 1))) W N hh ∧ (∀ i, (gui h 140 k (min (h.1 140 k) (h.1 140 x + 1))).1 140 i ≤ h.1 140 i) ∧ (gui h 140 k (min (h.1 140 k) (h.1 140 x + 1))).1 140 k ≤ h.1 140 x + 1 := by
  refine ⟨fun i hi => ?_, fun i => ?_, ?_⟩
  · by_cases q : i = k
    · subst q
      rw [gui_s, up1_s]
      obtain ⟨v, v1, v2, v3⟩ := hq i hi
      obtain ⟨u, u1, u2, u3⟩ := hq x hx
      by_cases z : v ≤ u + 1
      · exact ⟨v, by omega, v2, v3⟩
      · refine ⟨u + 1, by omega, by omega, ?_⟩
        rcases u3 with y | y
        · omega
        · exact Or.inr (wk_s.mpr ⟨x, hx, hw, y⟩)
    · rw [gui_s, up1_n q]
      exact hq i hi
  · rw [gui_s]
    by_cases q : i = k
    · subst q
      rw [up1_s]
      omega
    · rw [up1_n q]
      omega
  · rw [gui_s, up1_s]
    omega
theorem s_findSteps {h : gH} {t hh : Nat} {T S : Nat → Nat} (hI : CI h t T S) (hhh : hh < T 3) : gSp 3 yX5_findSteps cX5_findSteps 7 none [.ref 138, .ref t, .ref 52, .int (zI (hh : Int))] h (fun v h' => v = none ∧ h'.2 = h.2 ∧ (∀ o, o ≠ 139 → o ≠ 140 → h'.1 o = h.1 o) ∧ rgW h' T S ∧ ∀ k, k < T 3 → h'.1 140 k = wkV (wkL (wr T S) (T 3) hh k)) := by
  obtain ⟨ht, hP, hT, hS, hA, hB, hN⟩ := id hI
  obtain ⟨s0, -⟩ := shT ht
  have htt : t = 6 ∨ t = 29 := ht
  have h3 := hT.2.2.2.1
  have hw3 : h.1 t 3 = (T 3 : Int) := hA.1 3 (by omega)
  refine gSp_of (by decide +kernel) (Nat.le_of_ble_eq_true rfl) ?_
  show gJ RX5 cX5_findSteps 7 none _ 0 [some (.ref 138), some (.ref t), some (.ref 52), some (.int (zI (hh : Int))), none, none, none] [] _ _
  refine gj_aload_n (pc' := 1) dX5_findSteps_0 rfl rfl ?_
  refine gj_aload_n (pc' := 2) dX5_findSteps_1 rfl rfl ?_
  refine gj_aload_n (pc' := 3) dX5_findSteps_2 rfl rfl ?_
  refine gc_X5_46 (pc' := 6) dX5_findSteps_3 rfl (s_findWrongs hI) rfl (by first | rfl | assumption) (by decide) rfl (Nat.le_of_ble_eq_true rfl) (fun v9 h9 q9 => ?_)
  obtain ⟨rfl, f0, f1, f2⟩ := q9
  obtain ⟨hd, rfl⟩ : ∃ x, x = h9 := ⟨h9, rfl⟩
  have hw : hd.1 t 3 = (T 3 : Int) := by rw [f1 t (by omega)]; exact hw3
  show gJ _ _ _ _ _ _ _ [] _ _
  refine gj_iconst (pc' := 7) dX5_findSteps_6 rfl ?_
  refine gj_istore (pc' := 9) dX5_findSteps_7 rfl (by decide) ?_
  refine gJ_wk (gJ_fH0 (L := fun k  => [some (.ref 138), some (.ref t), some (.ref 52), some (.int (zI (hh : Int))), some (.int (zI (k : Int))), none, none]) (I := fun k  hp => hp.2 = hd.2 ∧ (∀ o, o ≠ 140 → hp.1 o = hd.1 o) ∧ (∀ i, i < k → hp.1 140 i = if i = hh then 0 else 99)) (T 3) (fun k  hp hb_k iv_k ih_k => ?step_1) (0) (Nat.zero_le _)  _ ?iv0_1) ?ll0_1
  case ll0_1 =>
    repeat' (first | exact True.intro | with_reducible exact rfl | refine And.intro ?_ ?_ | refine vI ?_ | refine vL ?_)
    all_goals first | rfl | omega
  case iv0_1 =>
    exact ⟨rfl, fun _ _ => rfl, fun i hi => absurd hi (Nat.not_lt_zero i)⟩
  obtain ⟨i1, i2, i3⟩ := iv_k
  refine gj_iload (pc' := 11) dX5_findSteps_9 rfl rfl ?_
  refine gj_aload_n (pc' := 12) dX5_findSteps_11 rfl rfl ?_
  refine gf_X5_24 (pc' := 15) dX5_findSteps_12 rfl (by first | rfl | assumption) rfl ?_
  rw [i2 t (by omega), hw]
  refine gj_icmp_ge (pc' := 18) (tgt := 43) dX5_findSteps_15 (by decide) rfl (by omega) (fun c15 => ?_) (fun c15 => ?_)
  · refine gj_iconst (pc' := 44) dX5_findSteps_43 rfl ?_
    refine gj_istore (pc' := 46) dX5_findSteps_44 rfl (by decide) ?_
    refine gJ_wk (gJ_fH0 (L := fun z  => [some (.ref 138), some (.ref t), some (.ref 52), some (.int (zI (hh : Int))), some (.int (zI (z : Int))), none, none]) (I := fun z  hp => hp.2 = hd.2 ∧ (∀ o, o ≠ 140 → hp.1 o = hd.1 o) ∧ rgQ hp (wr T S) (T 3) hh ∧ (∀ i, i < T 3 → rgC hp (wr T S) (T 3) hh z i)) (T 3) (fun z  hp hb_z iv_z ih_z => ?step_2) (0) (Nat.zero_le _)  _ ?iv0_2) ?ll0_2
    case ll0_2 =>
      repeat' (first | exact True.intro | with_reducible exact rfl | refine And.intro ?_ ?_ | refine vI ?_ | refine vL ?_)
      all_goals first | rfl | omega
    case iv0_2 =>
      refine ⟨i1, i2, fun i hi => ?_, fun i hi n hn hq => ?_⟩
      · rw [i3 i (by omega)]
        by_cases q : i = hh
        · rw [if_pos q]
          exact ⟨0, rfl, by omega, Or.inr (by rw [q]; exact beq_self_eq_true hh)⟩
        · rw [if_neg q]
          exact ⟨99, rfl, by omega, Or.inl rfl⟩
      · obtain rfl : n = 0 := by omega
        have e : i = hh := by
          have : (i == hh) = true := hq
          exact beq_iff_eq.mp this
        rw [i3 i (by omega), if_pos e]
        omega
    obtain ⟨a1, a2, a3, a4⟩ := iv_z
    refine gj_iload (pc' := 48) dX5_findSteps_46 rfl rfl ?_
    refine gj_aload_n (pc' := 49) dX5_findSteps_48 rfl rfl ?_
    refine gf_X5_24 (pc' := 52) dX5_findSteps_49 rfl (by first | rfl | assumption) rfl ?_
    rw [a2 t (by omega), hw]
    refine gj_icmp_ge (pc' := 55) (tgt := 134) dX5_findSteps_52 (by decide) rfl (by omega) (fun c52 => ?_) (fun c52 => ?_)
    · refine gj_vret rfl dX5_findSteps_134 ?_
      refine ⟨rfl, a1.trans f0, fun o o1 o2 => (a2 o o2).trans (f1 o o1), f2.to (a2 139 (by decide)), fun k hk => ?_⟩
      obtain ⟨v, v1, v2, v3⟩ := a3 k hk
      rw [v1]
      exact wkV_eq h3.2 hk v2 v3 (fun n hn hq => by
        have := a4 k hk n (by omega) hq
        omega)
    · refine gj_iconst (pc' := 56) dX5_findSteps_55 rfl ?_
      refine gj_istore (pc' := 58) dX5_findSteps_56 rfl (by decide) ?_
      refine gJ_wk (gJ_fH0 (L := fun k  => [some (.ref 138), some (.ref t), some (.ref 52), some (.int (zI (hh : Int))), some (.int (zI (z : Int))), some (.int (zI (k : Int))), none]) (I := fun k  hp => hp.2 = hd.2 ∧ (∀ o, o ≠ 140 → hp.1 o = hd.1 o) ∧ rgQ hp (wr T S) (T 3) hh ∧ (∀ i, i < T 3 → rgC hp (wr T S) (T 3) hh z i) ∧ (∀ i, i < k → rgC hp (wr T S) (T 3) hh (z + 1) i)) (T 3) (fun k  hp hb_k iv_k ih_k => ?step_3) (0) (Nat.zero_le _)  _ ?iv0_3) ?ll0_3
      case ll0_3 =>
        repeat' (first | exact True.intro | with_reducible exact rfl | refine And.intro ?_ ?_ | refine vI ?_ | refine vL ?_)
        all_goals first | rfl | omega
      case iv0_3 =>
        exact ⟨a1, a2, a3, a4, fun i hi => absurd hi (Nat.not_lt_zero i)⟩
      obtain ⟨b1, b2, b3, b4, b5⟩ := iv_k
      refine gj_iload (pc' := 60) dX5_findSteps_58 rfl rfl ?_
      refine gj_aload_n (pc' := 61) dX5_findSteps_60 rfl rfl ?_
      refine gf_X5_24 (pc' := 64) dX5_findSteps_61 rfl (by first | rfl | assumption) rfl ?_
      rw [b2 t (by omega), hw]
      refine gj_icmp_ge (pc' := 67) (tgt := 128) dX5_findSteps_64 (by decide) rfl (by omega) (fun c64 => ?_) (fun c64 => ?_)
      · refine gj_iinc (pc' := 131) dX5_findSteps_128 rfl rfl (by decide) ?_
        refine gj_goto (pc' := 46) dX5_findSteps_131 (by decide) ?_
        refine gJ_wk (ih_z  _ (by omega) ?iv_4) ?ll_4
        case ll_4 =>
          repeat' (first | exact True.intro | with_reducible exact rfl | refine And.intro ?_ ?_ | refine vI ?_ | refine vL ?_)
          all_goals omega
        exact ⟨b1, b2, b3, fun i hi => b5 i (by omega)⟩
      · refine gj_iconst (pc' := 68) dX5_findSteps_67 rfl ?_
        refine gj_istore (pc' := 70) dX5_findSteps_68 rfl (by decide) ?_
        refine gJ_wk (gJ_fH0 (L := fun x  => [some (.ref 138), some (.ref t), some (.ref 52), some (.int (zI (hh : Int))), some (.int (zI (z : Int))), some (.int (zI (k : Int))), some (.int (zI (x : Int)))]) (I := fun x  hp => hp.2 = hd.2 ∧ (∀ o, o ≠ 140 → hp.1 o = hd.1 o) ∧ rgQ hp (wr T S) (T 3) hh ∧ (∀ i, i < T 3 → rgC hp (wr T S) (T 3) hh z i) ∧ (∀ i, i < k → rgC hp (wr T S) (T 3) hh (z + 1) i) ∧ (∀ y, y < x → wr T S k y = true → ∀ n : Nat, n ≤ z → wk (wr T S) (T 3) hh n y = true → hp.1 140 k ≤ (n : Int) + 1)) (T 3) (fun x  hp hb_x iv_x ih_x => ?step_5) (0) (Nat.zero_le _)  _ ?iv0_5) ?ll0_5
        case ll0_5 =>
          repeat' (first | exact True.intro | with_reducible exact rfl | refine And.intro ?_ ?_ | refine vI ?_ | refine vL ?_)
          all_goals first | rfl | omega
        case iv0_5 =>
          exact ⟨b1, b2, b3, b4, b5, fun i hi => absurd hi (Nat.not_lt_zero i)⟩
        obtain ⟨d1, d2, d3, d4, d5, d6⟩ := iv_x
        have hkl : k < T 3 := by omega
        refine gj_iload (pc' := 72) dX5_findSteps_70 rfl rfl ?_
        refine gj_aload_n (pc' := 73) dX5_findSteps_72 rfl rfl ?_
        refine gf_X5_24 (pc' := 76) dX5_findSteps_73 rfl (by first | rfl | assumption) rfl ?_
        rw [d2 t (by omega), hw]
        refine gj_icmp_ge (pc' := 79) (tgt := 122) dX5_findSteps_76 (by decide) rfl (by omega) (fun c76 => ?_) (fun c76 => ?_)
        · refine gj_iinc (pc' := 125) dX5_findSteps_122 rfl rfl (by decide) ?_
          refine gj_goto (pc' := 58) dX5_findSteps_125 (by decide) ?_
          refine gJ_wk (ih_k  _ (by omega) ?iv_6) ?ll_6
          case ll_6 =>
            repeat' (first | exact True.intro | with_reducible exact rfl | refine And.intro ?_ ?_ | refine vI ?_ | refine vL ?_)
            all_goals omega
          refine ⟨d1, d2, d3, d4, fun i hi n hn hq => ?_⟩
          by_cases q : i = k
          · rw [q] at hq ⊢
            cases n with
            | zero => exact d4 k hkl 0 (Nat.zero_le _) hq
            | succ n =>
              obtain ⟨y, y1, y2, y3⟩ := wk_s.mp hq
              have := d6 y (by omega) y2 n (by omega) y3
              omega
          · exact d5 i (by omega) n hn hq
        · refine gj_aload_n (pc' := 80) dX5_findSteps_79 rfl rfl ?_
          refine gj_iload (pc' := 82) dX5_findSteps_80 rfl rfl ?_
          refine gj_iload (pc' := 84) dX5_findSteps_82 rfl rfl ?_
          refine gr_X5_28 (pc' := 87) dX5_findSteps_84 rfl (s_hasWronged hT (f2.to (d2 139 (by decide))) hkl (by omega)) rfl (by first | rfl | assumption) (by decide) rfl (Nat.le_of_ble_eq_true rfl) ?_
          first | refine gj_ifB_eq (pc' := 90) (tgt := 116) dX5_findSteps_87 (by decide) rfl (fun c87 => ?_) (fun c87 => ?_) | refine gj_if_eq (pc' := 90) (tgt := 116) dX5_findSteps_87 (by decide) rfl (by omega) (fun c87 => ?_) (fun c87 => ?_)
          · refine gj_iinc (pc' := 119) dX5_findSteps_116 rfl rfl (by decide) ?_
            refine gj_goto (pc' := 70) dX5_findSteps_119 (by decide) ?_
            refine gJ_wk (ih_x  _ (by omega) ?iv_7) ?ll_7
            case ll_7 =>
              repeat' (first | exact True.intro | with_reducible exact rfl | refine And.intro ?_ ?_ | refine vI ?_ | refine vL ?_)
              all_goals omega
            first
            | (refine ⟨d1, fun o ho => (gui_n ho).trans (d2 o ho), g1, fun i hi n hn hq => Int.le_trans (g2 i) (d4 i hi n hn hq), fun i hi n hn hq => Int.le_trans (g2 i) (d5 i hi n hn hq), fun y hy hyw n hn hq => ?_⟩
               by_cases q : y = x
               · rw [q] at hq
                 have e := d4 x (by omega) n hn hq
                 omega
               · exact Int.le_trans (g2 k) (d6 y (by omega) hyw n hn hq))
            | (refine ⟨d1, d2, d3, d4, d5, fun y hy hyw n hn hq => ?_⟩
               by_cases q : y = x
               · rw [q] at hyw
                 exact absurd (hyw.symm.trans c87) (by decide)
               · exact d6 y (by omega) hyw n hn hq)
          · obtain ⟨v, v1, v2, v3⟩ := d3 k hkl
            obtain ⟨u, u1, u2', u3⟩ := d3 x (by omega)
            obtain ⟨g1, g2, g3⟩ := rg_up d3 hkl (show x < T 3 by omega) c87
            refine gj_aload_n (pc' := 91) dX5_findSteps_90 rfl rfl ?_
            refine gf_X5_17 (pc' := 94) dX5_findSteps_91 rfl (by first | rfl | assumption) rfl ?_
            refine gj_iload (pc' := 96) dX5_findSteps_94 rfl rfl ?_
            refine gj_aload_n (pc' := 97) dX5_findSteps_96 rfl rfl ?_
            refine gf_X5_17 (pc' := 100) dX5_findSteps_97 rfl (by first | rfl | assumption) rfl ?_
            refine gj_iload (pc' := 102) dX5_findSteps_100 rfl rfl ?_
            refine gj_iald (pc' := 103) (j := k) (by first | rfl | assumption) (by omega) (by omega) (by decide) dX5_findSteps_102 rfl ?_
            refine gj_aload_n (pc' := 104) dX5_findSteps_103 rfl rfl ?_
            refine gf_X5_17 (pc' := 107) dX5_findSteps_104 rfl (by first | rfl | assumption) rfl ?_
            refine gj_iload (pc' := 109) dX5_findSteps_107 rfl rfl ?_
            refine gj_iald (pc' := 110) (j := x) (by first | rfl | assumption) (by omega) (by omega) (by decide) dX5_findSteps_109 rfl ?_
            refine gj_iconst (pc' := 111) dX5_findSteps_110 rfl ?_
            refine gj_iadd (pc' := 112) dX5_findSteps_111 rfl ?_
            refine gj_mmin (pc' := 115) dX5_findSteps_112 rfl wm_X5_32 (by decide) (by omega) (by omega) (Nat.le_of_ble_eq_true rfl) ?_
            refine gj_iast (pc' := 116) (j := k) (by first | rfl | assumption) (by omega) (by omega) (by decide) dX5_findSteps_115 rfl ?_
            refine gj_iinc (pc' := 119) dX5_findSteps_116 rfl rfl (by decide) ?_
            refine gj_goto (pc' := 70) dX5_findSteps_119 (by decide) ?_
            refine gJ_wk (ih_x  _ (by omega) ?iv_8) ?ll_8
            case ll_8 =>
              repeat' (first | exact True.intro | with_reducible exact rfl | refine And.intro ?_ ?_ | refine vI ?_ | refine vL ?_)
              all_goals omega
            first
            | (refine ⟨d1, fun o ho => (gui_n ho).trans (d2 o ho), g1, fun i hi n hn hq => Int.le_trans (g2 i) (d4 i hi n hn hq), fun i hi n hn hq => Int.le_trans (g2 i) (d5 i hi n hn hq), fun y hy hyw n hn hq => ?_⟩
               by_cases q : y = x
               · rw [q] at hq
                 have e := d4 x (by omega) n hn hq
                 omega
               · exact Int.le_trans (g2 k) (d6 y (by omega) hyw n hn hq))
            | (refine ⟨d1, d2, d3, d4, d5, fun y hy hyw n hn hq => ?_⟩
               by_cases q : y = x
               · rw [q] at hyw
                 exact absurd (hyw.symm.trans c87) (by decide)
               · exact d6 y (by omega) hyw n hn hq)
  · refine gj_aload_n (pc' := 19) dX5_findSteps_18 rfl rfl ?_
    refine gf_X5_17 (pc' := 22) dX5_findSteps_19 rfl (by first | rfl | assumption) rfl ?_
    refine gj_iload (pc' := 24) dX5_findSteps_22 rfl rfl ?_
    refine gj_iload (pc' := 26) dX5_findSteps_24 rfl rfl ?_
    refine gj_iload_n (pc' := 27) dX5_findSteps_26 rfl rfl ?_
    refine gj_icmp_ne (pc' := 30) (tgt := 34) dX5_findSteps_27 (by decide) rfl (by omega) (fun c27 => ?_) (fun c27 => ?_)
    · refine gj_bipush (pc' := 36) dX5_findSteps_34 rfl (by decide) ?_
      refine gj_iast (pc' := 37) (j := k) (by first | rfl | assumption) (by omega) (by omega) (by decide) dX5_findSteps_36 rfl ?_
      refine gj_iinc (pc' := 40) dX5_findSteps_37 rfl rfl (by decide) ?_
      refine gj_goto (pc' := 9) dX5_findSteps_40 (by decide) ?_
      refine gJ_wk (ih_k  _ (by omega) ?iv_9) ?ll_9
      case ll_9 =>
        repeat' (first | exact True.intro | with_reducible exact rfl | refine And.intro ?_ ?_ | refine vI ?_ | refine vL ?_)
        all_goals omega
      refine ⟨i1, fun o ho => (gui_n ho).trans (i2 o ho), fun i hi => ?_⟩
      rw [gui_s]
      by_cases q : i = k
      · rw [q, up1_s]
        first
        | (rw [if_pos (by omega)])
        | (rw [if_neg (by omega)])
      · rw [up1_n q]; exact i3 i (by omega)
    · refine gj_iconst (pc' := 31) dX5_findSteps_30 rfl ?_
      refine gj_goto (pc' := 36) dX5_findSteps_31 (by decide) ?_
      refine gj_iast (pc' := 37) (j := k) (by first | rfl | assumption) (by omega) (by omega) (by decide) dX5_findSteps_36 rfl ?_
      refine gj_iinc (pc' := 40) dX5_findSteps_37 rfl rfl (by decide) ?_
      refine gj_goto (pc' := 9) dX5_findSteps_40 (by decide) ?_
      refine gJ_wk (ih_k  _ (by omega) ?iv_10) ?ll_10
      case ll_10 =>
        repeat' (first | exact True.intro | with_reducible exact rfl | refine And.intro ?_ ?_ | refine vI ?_ | refine vL ?_)
        all_goals omega
      refine ⟨i1, fun o ho => (gui_n ho).trans (i2 o ho), fun i hi => ?_⟩
      rw [gui_s]
      by_cases q : i = k
      · rw [q, up1_s]
        first
        | (rw [if_pos (by omega)])
        | (rw [if_neg (by omega)])
      · rw [up1_n q]; exact i3 i (by omega)
/-- the fewest houses of a ring -/
def rgL (W : Nat → Nat → Bool) (N hh : Nat) : Int := if fstN (fun i => wk W N hh (i + 2) hh) 5 = -2 then -2 else fstN (fun i => wk W N hh (i + 2) hh) 5 + 2
theorem wkV_in {W : Nat → Nat → Bool} {N hh k : Nat} (hN : N ≤ 6) (hk : k < N) : (wkV (wkL W N hh k) = 99 ∧ ∀ n, wk W N hh n k = false) ∨ ∃ r : Nat, wkV (wkL W N hh k) = (r : Int) ∧ r < N ∧ wk W N hh r k = true ∧ ∀ j, j < r → wk W N hh j k = false := by
  unfold wkV
  rcases wkL_cs (W := W) (h := hh) hN hk with ⟨e, hf⟩ | ⟨r, e, hr⟩
  · rw [if_pos e]; exact Or.inl ⟨rfl, hf⟩
  · rw [if_neg (by omega), e]; exact Or.inr ⟨r, rfl, hr⟩
theorem rg_min {W : Nat → Nat → Bool} {N hh : Nat} {x : Int} (hN : N ≤ 6) (hs : W hh hh = false) (h1 : x = 99 ∨ ∃ i, i < N ∧ W hh i = true ∧ x = wkV (wkL W N hh i) + 1) (h2 : ∀ i, i < N → W hh i = true → x ≤ wkV (wkL W N hh i) + 1) (hx : x ≤ 99) : rgL W N hh = if 99 ≤ x then -2 else x := by
  unfold rgL
  have hbig : 99 ≤ x → ∀ n, wk W N hh (n + 1) hh = false := fun q n => by
    cases z : wk W N hh (n + 1) hh with
    | false => rfl
    | true =>
      obtain ⟨y, y1, y2, y3⟩ := wk_s.mp z
      have := h2 y y1 y2
      rcases wkV_in (W := W) (hh := hh) hN y1 with ⟨_, hf⟩ | ⟨r, e, r1, _⟩
      · rw [hf n] at y3; cases y3
      · omega
  by_cases q : 99 ≤ x
  · rw [if_pos q, fstN_no (fun k _ => hbig q (k + 1)), if_pos rfl]
  · rw [if_neg q]
    rcases h1 with h1 | ⟨i, i1, i2, i3⟩
    · omega
    · rcases wkV_in (W := W) (hh := hh) hN i1 with ⟨e, _⟩ | ⟨r, e, r1, r2, r3⟩
      · omega
      · have hr0 : r ≠ 0 := by
          intro z
          rw [z] at r2
          have : (i == hh) = true := r2
          rw [beq_iff_eq.mp this, hs] at i2
          cases i2
        have hw : wk W N hh (r - 1 + 2) hh = true := by
          rw [show r - 1 + 2 = r + 1 by omega]
          exact wk_s.mpr ⟨i, i1, i2, r2⟩
        have hl : ∀ k, k < r - 1 → wk W N hh (k + 2) hh = false := fun k hk => by
          cases z : wk W N hh (k + 2) hh with
          | false => rfl
          | true =>
            obtain ⟨y, y1, y2, y3⟩ := wk_s.mp z
            have b := h2 y y1 y2
            rcases wkV_in (W := W) (hh := hh) hN y1 with ⟨_, hf⟩ | ⟨u, e2, u1, u2, u3⟩
            · rw [hf (k + 1)] at y3; cases y3
            · rw [u3 (k + 1) (by omega)] at y3; cases y3
        rw [fstN_at (p := fun i => wk W N hh (i + 2) hh) hw hl (by omega), if_neg (by omega)]
        omega
theorem s_shortest {h : gH} {t hh : Nat} {T S : Nat → Nat} (hI : CI h t T S) (hhh : hh < T 3) : gSp 4 yX5_shortest cX5_shortest 6 (some .int) [.ref 138, .ref t, .ref 52, .int (zI (hh : Int))] h (fun v h' => v = some (.int (zI (rgL (wr T S) (T 3) hh))) ∧ h'.2 = h.2 ∧ (∀ o, o ≠ 139 → o ≠ 140 → h'.1 o = h.1 o) ∧ rgW h' T S ∧ ∀ k, k < T 3 → h'.1 140 k = wkV (wkL (wr T S) (T 3) hh k)) := by
  obtain ⟨ht, hP, hT, hS, hA, hB, hN⟩ := id hI
  obtain ⟨s0, -⟩ := shT ht
  have htt : t = 6 ∨ t = 29 := ht
  have h3 := hT.2.2.2.1
  have hw3 : h.1 t 3 = (T 3 : Int) := hA.1 3 (by omega)
  refine gSp_of (by decide +kernel) (Nat.le_of_ble_eq_true rfl) ?_
  show gJ RX5 cX5_shortest 6 (some .int) _ 0 [some (.ref 138), some (.ref t), some (.ref 52), some (.int (zI (hh : Int))), none, none] [] _ _
  refine gj_aload_n (pc' := 1) dX5_shortest_0 rfl rfl ?_
  refine gj_aload_n (pc' := 2) dX5_shortest_1 rfl rfl ?_
  refine gj_aload_n (pc' := 3) dX5_shortest_2 rfl rfl ?_
  refine gj_iload_n (pc' := 4) dX5_shortest_3 rfl rfl ?_
  refine gc_X5_20 (pc' := 7) dX5_shortest_4 rfl (s_findSteps hI hhh) rfl (by first | rfl | assumption) (by decide) rfl (Nat.le_of_ble_eq_true rfl) (fun v9 h9 q9 => ?_)
  obtain ⟨rfl, f0, f1, f2, f3⟩ := q9
  obtain ⟨hd, rfl⟩ : ∃ x, x = h9 := ⟨h9, rfl⟩
  have hw : hd.1 t 3 = (T 3 : Int) := by rw [f1 t (by omega) (by omega)]; exact hw3
  show gJ _ _ _ _ _ _ _ [] _ _
  refine gj_bipush (pc' := 9) dX5_shortest_7 rfl (by decide) ?_
  refine gj_istore (pc' := 11) dX5_shortest_9 rfl (by decide) ?_
  refine gj_iconst (pc' := 12) dX5_shortest_11 rfl ?_
  refine gj_istore (pc' := 14) dX5_shortest_12 rfl (by decide) ?_
  refine gJ_wk (gJ_fI1 (L := fun k x => [some (.ref 138), some (.ref t), some (.ref 52), some (.int (zI (hh : Int))), some (.int (zI x)), some (.int (zI (k : Int)))]) (I := fun k x => (x ≤ 99 ∧ 0 ≤ x) ∧ (x = 99 ∨ ∃ i, i < k ∧ wr T S hh i = true ∧ x = wkV (wkL (wr T S) (T 3) hh i) + 1) ∧ (∀ i, i < k → wr T S hh i = true → x ≤ wkV (wkL (wr T S) (T 3) hh i) + 1)) (T 3) (fun k x hb_k iv_k ih_k => ?step_1) (0) (Nat.zero_le _) ?x0_1 ?iv0_1) ?ll0_1
  case ll0_1 =>
    repeat' (first | exact True.intro | with_reducible exact rfl | refine And.intro ?_ ?_ | refine vI ?_ | refine vL ?_)
    all_goals first | rfl | omega
  case iv0_1 =>
    exact ⟨⟨by omega, by omega⟩, Or.inl rfl, fun i hi => absurd hi (Nat.not_lt_zero i)⟩
  obtain ⟨i1, i2, i3⟩ := iv_k
  have hv : k < T 3 → 0 ≤ wkV (wkL (wr T S) (T 3) hh k) ∧ wkV (wkL (wr T S) (T 3) hh k) ≤ 99 := fun q => by
    rcases wkV_in (W := wr T S) (hh := hh) h3.2 q with ⟨e, _⟩ | ⟨r, e, r1, _⟩ <;> omega
  refine gj_iload (pc' := 16) dX5_shortest_14 rfl rfl ?_
  refine gj_aload_n (pc' := 17) dX5_shortest_16 rfl rfl ?_
  refine gf_X5_24 (pc' := 20) dX5_shortest_17 rfl (by first | rfl | assumption) rfl ?_
  rw [hw]
  refine gj_icmp_ge (pc' := 23) (tgt := 55) dX5_shortest_20 (by decide) rfl (by omega) (fun c20 => ?_) (fun c20 => ?_)
  · refine gj_iload (pc' := 57) dX5_shortest_55 rfl rfl ?_
    refine gj_bipush (pc' := 59) dX5_shortest_57 rfl (by decide) ?_
    refine gj_icmp_lt (pc' := 62) (tgt := 67) dX5_shortest_59 (by decide) rfl (by clear i2; omega) (fun c59 => ?_) (fun c59 => ?_)
    · refine gj_iload (pc' := 69) dX5_shortest_67 rfl rfl ?_
      refine gj_iret rfl dX5_shortest_69 ?_
      have hm := rg_min (x := x) h3.2 (wr_self (S := S) hT hh) (by
        rcases i2 with e | ⟨i, e1, e2⟩
        · exact Or.inl e
        · exact Or.inr ⟨i, by omega, e2⟩) (fun i hi => i3 i (by omega)) i1.1
      refine ⟨?_, f0, f1, f2, f3⟩
      rw [hm]
      clear i2 hm
      first
      | (rw [if_pos (by omega)])
      | (rw [if_neg (by omega)])
    · refine gj_bipush (pc' := 64) dX5_shortest_62 rfl (by decide) ?_
      refine gj_goto (pc' := 69) dX5_shortest_64 (by decide) ?_
      refine gj_iret rfl dX5_shortest_69 ?_
      have hm := rg_min (x := x) h3.2 (wr_self (S := S) hT hh) (by
        rcases i2 with e | ⟨i, e1, e2⟩
        · exact Or.inl e
        · exact Or.inr ⟨i, by omega, e2⟩) (fun i hi => i3 i (by omega)) i1.1
      refine ⟨?_, f0, f1, f2, f3⟩
      rw [hm]
      clear i2 hm
      first
      | (rw [if_pos (by omega)])
      | (rw [if_neg (by omega)])
  · refine gj_aload_n (pc' := 24) dX5_shortest_23 rfl rfl ?_
    refine gj_iload_n (pc' := 25) dX5_shortest_24 rfl rfl ?_
    refine gj_iload (pc' := 27) dX5_shortest_25 rfl rfl ?_
    refine gr_X5_28 (pc' := 30) dX5_shortest_27 rfl (s_hasWronged hT f2 hhh (by omega)) rfl (by first | rfl | assumption) (by decide) rfl (Nat.le_of_ble_eq_true rfl) ?_
    first | refine gj_ifB_eq (pc' := 33) (tgt := 49) dX5_shortest_30 (by decide) rfl (fun c30 => ?_) (fun c30 => ?_) | refine gj_if_eq (pc' := 33) (tgt := 49) dX5_shortest_30 (by decide) rfl (by omega) (fun c30 => ?_) (fun c30 => ?_)
    · refine gj_iinc (pc' := 52) dX5_shortest_49 rfl rfl (by decide) ?_
      refine gj_goto (pc' := 14) dX5_shortest_52 (by decide) ?_
      refine gJ_wk (ih_k ?x_2 (by omega) ?iv_2) ?ll_2
      case ll_2 =>
        repeat' (first | exact True.intro | with_reducible exact rfl | refine And.intro ?_ ?_ | refine vI ?_ | refine vL ?_)
        all_goals omega
      have hk := hv (by omega)
      first
      | (have c := c30
         refine ⟨?_, ?_, fun i hi hw => ?_⟩
         · clear i2; omega
         · by_cases q : x ≤ wkV (wkL (wr T S) (T 3) hh k) + 1
           · rw [Int.min_eq_left q]
             rcases i2 with e | ⟨i, e1, e2⟩
             · exact Or.inl e
             · exact Or.inr ⟨i, by omega, e2⟩
           · rw [Int.min_eq_right (by omega)]
             exact Or.inr ⟨k, by omega, c, rfl⟩
         · by_cases q : i = k
           · rw [q]; exact Int.min_le_right _ _
           · exact Int.le_trans (Int.min_le_left _ _) (i3 i (by omega) hw))
      | (refine ⟨i1, ?_, fun i hi hw => ?_⟩
         · rcases i2 with e | ⟨i, e1, e2⟩
           · exact Or.inl e
           · exact Or.inr ⟨i, by omega, e2⟩
         · by_cases q : i = k
           · rw [q] at hw; exact absurd (hw.symm.trans c30) (by decide)
           · exact i3 i (by omega) hw)
    · refine gj_iload (pc' := 35) dX5_shortest_33 rfl rfl ?_
      refine gj_aload_n (pc' := 36) dX5_shortest_35 rfl rfl ?_
      refine gf_X5_17 (pc' := 39) dX5_shortest_36 rfl (by first | rfl | assumption) rfl ?_
      refine gj_iload (pc' := 41) dX5_shortest_39 rfl rfl ?_
      refine gj_iald (pc' := 42) (j := k) (by first | rfl | assumption) (by omega) (by omega) (by decide) dX5_shortest_41 rfl ?_
      rw [f3 k (by omega)]
      refine gj_iconst (pc' := 43) dX5_shortest_42 rfl ?_
      refine gj_iadd (pc' := 44) dX5_shortest_43 rfl ?_
      refine gj_mmin (pc' := 47) dX5_shortest_44 rfl wm_X5_32 (by decide) (by have := hv (by omega); clear i2; omega) (by have := hv (by omega); clear i2; omega) (Nat.le_of_ble_eq_true rfl) ?_
      refine gj_istore (pc' := 49) dX5_shortest_47 rfl (by decide) ?_
      refine gj_iinc (pc' := 52) dX5_shortest_49 rfl rfl (by decide) ?_
      refine gj_goto (pc' := 14) dX5_shortest_52 (by decide) ?_
      refine gJ_wk (ih_k ?x_3 (by omega) ?iv_3) ?ll_3
      case ll_3 =>
        repeat' (first | exact True.intro | with_reducible exact rfl | refine And.intro ?_ ?_ | refine vI ?_ | refine vL ?_)
        all_goals omega
      have hk := hv (by omega)
      first
      | (have c := c30
         refine ⟨?_, ?_, fun i hi hw => ?_⟩
         · clear i2; omega
         · by_cases q : x ≤ wkV (wkL (wr T S) (T 3) hh k) + 1
           · rw [Int.min_eq_left q]
             rcases i2 with e | ⟨i, e1, e2⟩
             · exact Or.inl e
             · exact Or.inr ⟨i, by omega, e2⟩
           · rw [Int.min_eq_right (by omega)]
             exact Or.inr ⟨k, by omega, c, rfl⟩
         · by_cases q : i = k
           · rw [q]; exact Int.min_le_right _ _
           · exact Int.le_trans (Int.min_le_left _ _) (i3 i (by omega) hw))
      | (refine ⟨i1, ?_, fun i hi hw => ?_⟩
         · rcases i2 with e | ⟨i, e1, e2⟩
           · exact Or.inl e
           · exact Or.inr ⟨i, by omega, e2⟩
         · by_cases q : i = k
           · rw [q] at hw; exact absurd (hw.symm.trans c30) (by decide)
           · exact i3 i (by omega) hw)
