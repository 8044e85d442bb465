/-! the acts: the model's day -/
def sMp (T S : Nat → Nat) (b : Nat) : Nat → Nat := fun j => if j = 20 then S 20 + 1 else if 7 ≤ j ∧ j < 7 + b then S j + sMany T S (j - 7) (S 20 + 1) else S j
theorem sMp_d {T S : Nat → Nat} {b : Nat} : sMp T S b 20 = S 20 + 1 := rfl
theorem sMp_w {T S : Nat → Nat} {b k : Nat} (hk : k < b) (hb : b ≤ 6) : sMp T S b (7 + k) = S (7 + k) + sMany T S k (S 20 + 1) := by
  unfold sMp
  rw [if_neg (by omega), if_pos (by omega), show 7 + k - 7 = k by omega]
theorem sMp_n {T S : Nat → Nat} {b j : Nat} (h1 : j ≠ 20) (h2 : j < 7 ∨ 7 + b ≤ j) : sMp T S b j = S j := by
  unfold sMp
  rw [if_neg h1, if_neg (by omega)]
theorem sMany_N {T S : Nat → Nat} {k d : Nat} (h4 : T 4 ≤ 7) : sMany T S k d = sN (fun i => (sSit T S k d i).toNat) (T 4) := pcN_bN _ (by omega)
theorem sMany_le {T S : Nat → Nat} {k d : Nat} (h4 : T 4 ≤ 7) : sMany T S k d ≤ 7 := by
  rw [sMany_N h4]
  have := sN_le (f := fun i => (sSit T S k d i).toNat) (c := 1) (n := T 4) (fun i _ => Bool.toNat_le _)
  omega
theorem sSet_mp {T S : Nat → Nat} {b k d : Nat} (hb : b ≤ 6) : sSet T (sMp T S b) k d = sSet T S k d := by
  have e : sMp T S b 19 = S 19 := sMp_n (by decide) (by omega)
  unfold sSet sSit sWh sGone
  rw [e]
theorem SV_mp {T S : Nat → Nat} {b : Nat} (hT : TV T) (hS : SV T S) (hd : S 20 < 999) (hb : b ≤ T 3) : SV T (sMp T S b) := by
  have h3 : T 3 ≤ 6 := hT.2.2.2.1.2
  have h4 : T 4 ≤ 7 := hT.2.2.2.2.1
  refine ⟨fun c hc => ?_, ?_, ?_, fun k hk => ?_, fun k hk => ?_⟩
  · rw [sMp_n (by omega) (by omega)]; exact hS.1 c hc
  · rw [sMp_n (by decide) (by omega)]; exact hS.2.1
  · rw [sMp_d]; omega
  · have h1 := hS.2.2.2.1 k hk
    have h2 := sMany_le (T := T) (S := S) (k := k) (d := S 20 + 1) h4
    rw [sMp_d]
    by_cases q : k < b
    · rw [sMp_w q (by omega)]; omega
    · rw [sMp_n (by omega) (by omega)]; omega
  · rw [sMp_n (by omega) (by omega)]; exact hS.2.2.2.2 k hk
theorem sMp_e {T S : Nat → Nat} (hT : TV T) (j : Nat) : sMp T S (T 3) j = sDp T S (T 4) j := by
  have h3 : T 3 ≤ 6 := hT.2.2.2.1.2
  have h4 : T 4 ≤ 7 := hT.2.2.2.2.1
  unfold sMp sDp
  by_cases c : j = 20
  · rw [if_pos c, if_pos c]
  · rw [if_neg c, if_neg c]
    by_cases c2 : 7 ≤ j ∧ j < 13
    · rw [if_pos c2]
      by_cases c3 : j - 7 < T 3
      · rw [if_pos (by omega), sMany_N h4]
      · have e : sN (fun i => (sSit T S (j - 7) (S 20 + 1) i).toNat) (T 4) = sN (fun _ => 0) (T 4) := sN_congr (fun i hi => by
          have hl := tSill_lt hT hi
          have : (tSill T i == j - 7) = false := beq_eq_false_iff_ne.mpr (by omega)
          unfold sSit
          rw [this]
          rfl)
        rw [if_neg (by omega), e, sN_zero]
        rfl
    · rw [if_neg c2, if_neg (by omega)]
theorem sN_one {a : Nat} {p : Bool} : ∀ n, sN (fun k => ((a == k) && p).toNat) n = if a < n then p.toNat else 0
  | 0 => rfl
  | n + 1 => by
    show sN (fun k => ((a == k) && p).toNat) n + ((a == n) && p).toNat = _
    rw [sN_one n]
    by_cases c : a = n
    · rw [if_neg (by omega), if_pos (by omega), c, beq_self_eq_true, Bool.true_and, Nat.zero_add]
    · rw [beq_eq_false_iff_ne.mpr c, Bool.false_and]
      by_cases c2 : a < n
      · rw [if_pos c2, if_pos (by omega)]; rfl
      · rw [if_neg c2, if_neg (by omega)]; rfl
theorem sits_all {T S : Nat → Nat} {d : Nat} (hT : TV T) : sN (fun k => sMany T S k d) (T 3) = sSits T S d (T 4) := by
  have h4 : T 4 ≤ 7 := hT.2.2.2.2.1
  have e : sN (fun k => sMany T S k d) (T 3) = sN (fun k => sN (fun i => (sSit T S k d i).toNat) (T 4)) (T 3) := sN_congr (fun k _ => sMany_N h4)
  rw [e, sN_swap]
  unfold sSits
  refine sN_congr (fun i hi => ?_)
  have := sN_one (a := tSill T i) (p := sWh T S i d == 2) (T 3)
  rw [if_pos (tSill_lt hT hi)] at this
  exact this
theorem m_day {h : gH} {T : Nat → Nat} {s : gSt} (hX : MST h T s) : gSp 12 yX11_day cX11_day 4 (some .int) [.ref 142] h (qMA (rDay T s) h T) := by
  obtain ⟨hQ, hH, hV⟩ := id hX
  have hQ2 : mQ (mG h) T s.1 := hQ
  have hH2 : MH (mG h) s.2.1.1 s.2.1.2 s.2.2.1 s.2.2.2 := hH
  refine gSp_of (by decide +kernel) (Nat.le_of_ble_eq_true rfl) ?_
  show gJ RX11 cX11_day 4 (some .int) _ 0 [some (.ref 142), none, none, none] [] _ _
  refine gj_aload_n (pc' := 1) dX11_day_0 rfl rfl ?_
  refine gc_X11_153 (pc' := 4) dX11_day_1 rfl (m_good) rfl (by first | rfl | assumption) (by decide) rfl (Nat.le_of_ble_eq_true rfl) (fun v9 h9 q9 => ?_)
  obtain ⟨rfl, rfl⟩ := q9
  show gJ _ _ _ _ _ _ _ [] _ _
  refine gj_aload_n (pc' := 5) dX11_day_4 rfl rfl ?_
  refine gf_X11_166 (pc' := 8) dX11_day_5 rfl (by first | rfl | assumption) rfl ?_
  rw [hQ2.2.1]
  first | refine gj_ifB_ne (pc' := 11) (tgt := 17) dX11_day_8 (by decide) rfl (fun c8 => ?_) (fun c8 => ?_) | refine gj_if_ne (pc' := 11) (tgt := 17) dX11_day_8 (by decide) rfl (by omega) (fun c8 => ?_) (fun c8 => ?_)
  · first | have g8 := of_decide_eq_true c8 | have g8 := of_decide_eq_false c8 | skip
    have hM := hQ2.mi (by omega)
    obtain ⟨-, hT, hS⟩ := id hM
    have h3 : T 3 ≤ 6 := hT.2.2.2.1.2
    have h4 : T 4 ≤ 7 := hT.2.2.2.2.1
    have h20 := hS.2.2.1
    refine gj_aload_n (pc' := 18) dX11_day_17 rfl rfl ?_
    refine gf_X11_26 (pc' := 21) dX11_day_18 rfl (by first | rfl | assumption) rfl ?_
    refine gj_bipush (pc' := 23) dX11_day_21 rfl (by decide) ?_
    refine gj_iald (pc' := 24) (j := 20) (by first | rfl | assumption) (by omega) (by omega) (by decide) dX11_day_23 rfl ?_
    rw [hM.1.2 20 (by decide)]
    refine gj_sipush (pc' := 27) dX11_day_24 rfl (by decide) ?_
    refine gj_icmp_ne (pc' := 30) (tgt := 36) dX11_day_27 (by decide) rfl (by omega) (fun c27 => ?_) (fun c27 => ?_)
    · refine gj_aload_n (pc' := 37) dX11_day_36 rfl rfl ?_
      refine gc_X11_402 (pc' := 40) dX11_day_37 rfl (m_note (S := s.1) (fun j hj => hM.1.2 j hj) hH2) rfl (by first | rfl | assumption) (by decide) rfl (Nat.le_of_ble_eq_true rfl) (fun v9 h9 q9 => ?_)
      obtain ⟨rfl, k0, k1, k2, k3⟩ := q9
      obtain ⟨hg, rfl⟩ : ∃ x, x = h9 := ⟨h9, rfl⟩
      have hMk : MI hg T s.1 := hM.nt (k1 145 (by decide) (by decide)) (k1 147 (by decide) (by decide))
      show gJ _ _ _ _ _ _ _ [] _ _
      refine gj_aload_n (pc' := 41) dX11_day_40 rfl rfl ?_
      refine gf_X11_26 (pc' := 44) dX11_day_41 rfl (by first | rfl | assumption) rfl ?_
      refine gj_bipush (pc' := 46) dX11_day_44 rfl (by decide) ?_
      refine gj_dup2 (pc' := 47) dX11_day_46 rfl rfl rfl ?_
      refine gj_iald (pc' := 48) (j := 20) (by first | rfl | assumption) (by omega) (by omega) (by decide) dX11_day_47 rfl ?_
      rw [hMk.1.2 20 (by decide)]
      refine gj_iconst (pc' := 49) dX11_day_48 rfl ?_
      refine gj_iadd (pc' := 50) dX11_day_49 rfl ?_
      refine gj_iast (pc' := 51) (j := 20) (by first | rfl | assumption) (by omega) (by omega) (by decide) dX11_day_50 rfl ?_
      refine gj_iconst (pc' := 52) dX11_day_51 rfl ?_
      refine gj_istore_n (pc' := 53) dX11_day_52 rfl (by decide) ?_
      refine gj_iconst (pc' := 54) dX11_day_53 rfl ?_
      refine gj_istore_n (pc' := 55) dX11_day_54 rfl (by decide) ?_
      refine gJ_wk (gJ_fH1 (L := fun b x => [some (.ref 142), some (.int (zI x)), some (.int (zI (b : Int))), none]) (I := fun b x hp => x = ((sN (fun k => sMany T s.1 k (s.1 20 + 1)) b : Nat) : Int) ∧ MI hp T (sMp T s.1 b) ∧ hp.2 = hg.2 ∧ ∀ o, o ≠ 147 → hp.1 o = hg.1 o) (T 3) (fun b x hp hb_b iv_b ih_b => ?step_1) (0) (Nat.zero_le _) ?x0_1 _ ?iv0_1) ?ll0_1
      case ll0_1 =>
        repeat' (first | exact True.intro | with_reducible exact rfl | refine And.intro ?_ ?_ | refine vI ?_ | refine vL ?_)
        all_goals first | rfl | omega
      case iv0_1 =>
        refine ⟨rfl, ⟨⟨fun j hj => by rw [gui_n (by decide)]; exact hMk.1.1 j hj, fun j hj => ?_⟩, hT, SV_mp hT hS (by omega) (Nat.zero_le _)⟩, rfl, fun o ho => gui_n ho⟩
        rw [gui_s]
        by_cases c : j = 20
        · rw [c, up1_s]; rfl
        · rw [up1_n c, sMp_n c (by omega)]; exact hMk.1.2 j hj
      obtain ⟨rfl, hM5, e2, e1⟩ := iv_b
      have es : sN (fun k => sMany T s.1 k (s.1 20 + 1)) (b + 1) = sN (fun k => sMany T s.1 k (s.1 20 + 1)) b + sMany T s.1 b (s.1 20 + 1) := rfl
      have hsl : sSet T s.1 b (s.1 20 + 1) < 256 := pc_lt h4
      refine gj_iload_n (pc' := 56) dX11_day_55 rfl rfl ?_
      refine gj_aload_n (pc' := 57) dX11_day_56 rfl rfl ?_
      refine gf_X11_20 (pc' := 60) dX11_day_57 rfl (by first | rfl | assumption) rfl ?_
      refine gj_iconst (pc' := 61) dX11_day_60 rfl ?_
      refine gj_iald (pc' := 62) (j := 3) (by first | rfl | assumption) (by omega) (by omega) (by decide) dX11_day_61 rfl ?_
      rw [hM5.1.1 3 (by decide)]
      refine gj_icmp_ge (pc' := 65) (tgt := 104) dX11_day_62 (by decide) rfl (by omega) (fun c62 => ?_) (fun c62 => ?_)
      · refine gj_iload_n (pc' := 105) dX11_day_104 rfl rfl ?_
        refine gj_iret rfl dX11_day_105 ?_
        have hbe : b = T 3 := by omega
        rw [hbe] at hM5 ⊢
        rw [sits_all hT]
        refine qMA_a (s := stKeep s (sDp T s.1 (T 4))) (by unfold rDay; rw [if_neg (by omega), if_neg (by omega)]) (e2.trans k0) (fun o o1 o2 o3 _ => (e1 o o2).trans (k1 o o1 o3)) (fun j j1 _ => by rw [e1 142 (by decide)]; exact k2 j j1) ⟨hQ2.to ((e1 145 (by decide)).trans (k1 145 (by decide) (by decide))) (by rw [e1 142 (by decide)]; exact k2 14 (by decide)) (fun j hj => by rw [hM5.1.2 j hj, sMp_e hT]; rfl) ⟨hT, SV_dp hT hS (by omega) (Nat.le_refl _)⟩, k3.to (by rw [e1 142 (by decide)]) (by rw [e1 142 (by decide)]) (e1 148 (by decide)) (e1 149 (by decide)), hV.keep hS (by omega)⟩
      · refine gj_aload_n (pc' := 66) dX11_day_65 rfl rfl ?_
        refine gj_iload_n (pc' := 67) dX11_day_66 rfl rfl ?_
        refine gj_aload_n (pc' := 68) dX11_day_67 rfl rfl ?_
        refine gf_X11_26 (pc' := 71) dX11_day_68 rfl (by first | rfl | assumption) rfl ?_
        refine gj_bipush (pc' := 73) dX11_day_71 rfl (by decide) ?_
        refine gj_iald (pc' := 74) (j := 20) (by first | rfl | assumption) (by omega) (by omega) (by decide) dX11_day_73 rfl ?_
        rw [hM5.1.2 20 (by decide), sMp_d]
        refine gr_X11_280 (pc' := 77) dX11_day_74 rfl (m_sitting hM5 (by omega) (by omega)) rfl (by first | rfl | assumption) (by decide) rfl (Nat.le_of_ble_eq_true rfl) ?_
        rw [sSet_mp (by omega)]
        refine gr_X11_295 (pc' := 80) dX11_day_77 rfl (m_ones (by omega)) rfl (by decide) rfl (Nat.le_of_ble_eq_true rfl) ?_
        rw [show pcN (sSet T s.1 b (s.1 20 + 1)) = sMany T s.1 b (s.1 20 + 1) from rfl]
        refine gj_istore_n (pc' := 81) dX11_day_80 rfl (by decide) ?_
        refine gj_aload_n (pc' := 82) dX11_day_81 rfl rfl ?_
        refine gf_X11_26 (pc' := 85) dX11_day_82 rfl (by first | rfl | assumption) rfl ?_
        refine gj_bipush (pc' := 87) dX11_day_85 rfl (by decide) ?_
        refine gj_iload_n (pc' := 88) dX11_day_87 rfl rfl ?_
        refine gj_iadd (pc' := 89) dX11_day_88 rfl ?_
        refine gj_dup2 (pc' := 90) dX11_day_89 rfl rfl rfl ?_
        refine gj_iald (pc' := 91) (j := 7 + b) (by first | rfl | assumption) (by omega) (by omega) (by decide) dX11_day_90 rfl ?_
        rw [hM5.1.2 _ (by omega), sMp_n (by omega) (by omega)]
        refine gj_iload_n (pc' := 92) dX11_day_91 rfl rfl ?_
        refine gj_iadd (pc' := 93) dX11_day_92 rfl ?_
        refine gj_iast (pc' := 94) (j := 7 + b) (by first | rfl | assumption) (by omega) (by omega) (by decide) dX11_day_93 rfl ?_
        refine gj_iload_n (pc' := 95) dX11_day_94 rfl rfl ?_
        refine gj_iload_n (pc' := 96) dX11_day_95 rfl rfl ?_
        refine gj_iadd (pc' := 97) dX11_day_96 rfl ?_
        refine gj_istore_n (pc' := 98) dX11_day_97 rfl (by decide) ?_
        refine gj_iinc (pc' := 101) dX11_day_98 rfl rfl (by decide) ?_
        refine gj_goto (pc' := 55) dX11_day_101 (by decide) ?_
        refine gJ_wk (ih_b ?x_2 _ (by omega) ?iv_2) ?ll_2
        case ll_2 =>
          repeat' (first | exact True.intro | with_reducible exact rfl | refine And.intro ?_ ?_ | refine vI ?_ | refine vL ?_)
          all_goals omega
        refine ⟨by rw [es]; omega, ⟨⟨fun j hj => by rw [gui_n (by decide)]; exact hM5.1.1 j hj, fun j hj => ?_⟩, hT, SV_mp hT hS (by omega) (by omega)⟩, e2, fun o ho => (gui_n ho).trans (e1 o ho)⟩
        rw [gui_s]
        by_cases c : j = 7 + b
        · rw [c, up1_s, sMp_w (by omega) (by omega)]; omega
        · rw [up1_n c, hM5.1.2 j hj]
          unfold sMp
          by_cases c2 : j = 20
          · rw [if_pos c2, if_pos c2]
          · rw [if_neg c2, if_neg c2]
            by_cases c3 : 7 ≤ j ∧ j < 7 + b
            · rw [if_pos c3, if_pos (by omega)]
            · rw [if_neg c3, if_neg (by omega)]
    · refine gj_aload_n (pc' := 31) dX11_day_30 rfl rfl ?_
      refine gj_iconst (pc' := 32) dX11_day_31 rfl ?_
      refine gc_X11_156 (pc' := 35) dX11_day_32 rfl (m_no) rfl (by first | rfl | assumption) (by decide) rfl (Nat.le_of_ble_eq_true rfl) (fun v9 h9 q9 => ?_)
      obtain ⟨rfl, rfl⟩ := q9
      show gJ _ _ _ _ _ _ _ (.int (zI (-1)) :: _) _ _
      refine gj_iret rfl dX11_day_35 ?_
      exact qMA_n (tr := 3) (by unfold rDay; rw [if_neg (by omega), if_pos (by omega)]) hX (MS.no h 3) rfl
  · first | have g8 := of_decide_eq_true c8 | have g8 := of_decide_eq_false c8 | skip
    refine gj_aload_n (pc' := 12) dX11_day_11 rfl rfl ?_
    refine gj_iconst (pc' := 13) dX11_day_12 rfl ?_
    refine gc_X11_156 (pc' := 16) dX11_day_13 rfl (m_no) rfl (by first | rfl | assumption) (by decide) rfl (Nat.le_of_ble_eq_true rfl) (fun v9 h9 q9 => ?_)
    obtain ⟨rfl, rfl⟩ := q9
    show gJ _ _ _ _ _ _ _ (.int (zI (-1)) :: _) _ _
    refine gj_iret rfl dX11_day_16 ?_
    exact qMA_n (tr := 1) (by unfold rDay; rw [if_pos (by omega)]) hX (MS.no h 1) rfl
