/-! storms: days aloft -/
def sdN (x : Nat) : Nat → Nat
  | 0 => x
  | k + 1 => (75 * sdN x k + 74) % 65537
def nrN (st x : Nat) : Nat → Nat
  | 0 => 0
  | k + 1 => nrN st x k + (if sdN x (k + 1) % 100 < st then 0 else 1)
theorem sdN_lt {x : Nat} (hx : x < 65537) : ∀ k, sdN x k < 65537
  | 0 => hx
  | k + 1 => Nat.mod_lt _ (by omega)
def alF (f st x : Nat) : Int := fstN (fun k => nrN st x k == f) 91
def alE (f st x : Nat) : Nat := if alF f st x = -2 then 90 else (alF f st x).toNat
theorem s_drawn {h : gH} {x : Nat} (hs : h.1 141 0 = (x : Int)) (hx : x < 65537) : gSp 1 yX6_drawn cX6_drawn 1 (some .int) [.ref 141] h (fun v h' => v = some (.int (zI (((75 * x + 74) % 65537 : Nat) : Int))) ∧ h' = gui h 141 0 (((75 * x + 74) % 65537 : Nat) : Int)) := by
  refine gSp_of (by decide +kernel) (Nat.le_of_ble_eq_true rfl) ?_
  show gJ RX6 cX6_drawn 1 (some .int) _ 0 [some (.ref 141)] [] _ _
  refine gj_aload_n (pc' := 1) dX6_drawn_0 rfl rfl ?_
  refine gj_bipush (pc' := 3) dX6_drawn_1 rfl (by decide) ?_
  refine gj_aload_n (pc' := 4) dX6_drawn_3 rfl rfl ?_
  refine gf_X6_9 (pc' := 7) dX6_drawn_4 rfl (by first | rfl | assumption) rfl ?_
  rw [hs]
  refine gj_imul (pc' := 8) dX6_drawn_7 rfl ?_
  refine gj_bipush (pc' := 10) dX6_drawn_8 rfl (by decide) ?_
  refine gj_iadd (pc' := 11) dX6_drawn_10 rfl ?_
  refine gj_ldc (z := 65537) (pc' := 13) dX6_drawn_11 rfl (gtb_at 1111 (by decide +kernel) rfl) ?_
  refine gj_irem (pc' := 14) dX6_drawn_13 rfl (by omega) (by omega) ?_
  rw [show (75 * (x : Int) + 74) % 65537 = (((75 * x + 74) % 65537 : Nat) : Int) by omega]
  refine gp_X6_9 (pc' := 17) dX6_drawn_14 rfl (by first | rfl | assumption) rfl ?_
  refine gj_aload_n (pc' := 18) dX6_drawn_17 rfl rfl ?_
  refine gf_X6_9 (pc' := 21) dX6_drawn_18 rfl (by first | rfl | assumption) rfl ?_
  rw [gui_s, up1_s]
  refine gj_iret rfl dX6_drawn_21 ?_
  exact ⟨rfl, rfl⟩
theorem s_daysAloft {h : gH} {f st x : Nat} (hs : h.1 141 0 = (x : Int)) (hx : x < 65537) (hf : f ≤ 200) (hst : st ≤ 100) : gSp 3 yX6_daysAloft cX6_daysAloft 5 (some .int) [.ref 141, .int (zI (f : Int)), .int (zI (st : Int))] h (fun v h' => v = some (.int (zI (alF f st x))) ∧ h'.2 = h.2 ∧ (∀ o, o ≠ 141 → h'.1 o = h.1 o) ∧ h'.1 141 0 = (sdN x (alE f st x) : Int)) := by
  refine gSp_of (by decide +kernel) (Nat.le_of_ble_eq_true rfl) ?_
  show gJ RX6 cX6_daysAloft 5 (some .int) _ 0 [some (.ref 141), some (.int (zI (f : Int))), some (.int (zI (st : Int))), none, none] [] _ _
  refine gj_iload_n (pc' := 1) dX6_daysAloft_0 rfl rfl ?_
  refine gj_istore_n (pc' := 2) dX6_daysAloft_1 rfl (by decide) ?_
  refine gj_iconst (pc' := 3) dX6_daysAloft_2 rfl ?_
  refine gj_istore (pc' := 5) dX6_daysAloft_3 rfl (by decide) ?_
  refine gJ_wk (gJ_fH1 (L := fun k z => [some (.ref 141), some (.int (zI (f : Int))), some (.int (zI (st : Int))), some (.int (zI z)), some (.int (zI (k : Int)))]) (I := fun k z hp => z = (f : Int) - (nrN st x (min k 90) : Nat) ∧ nrN st x (min k 90) ≤ f ∧ fstN (fun k => nrN st x k == f) k = -2 ∧ hp.2 = h.2 ∧ (∀ o, o ≠ 141 → hp.1 o = h.1 o) ∧ hp.1 141 0 = (sdN x (min k 90) : Int)) (91) (fun k z hp hb_k iv_k ih_k => ?step_1) (0) (Nat.zero_le _) ?z0_1 _ ?iv0_1) ?ll0_1
  case ll0_1 =>
    repeat' (first | exact True.intro | with_reducible exact rfl | refine And.intro ?_ ?_ | refine vI ?_ | refine vL ?_)
    all_goals first | rfl | omega
  case iv0_1 =>
    exact ⟨by show (f : Int) = (f : Int) - ((0 : Nat) : Int); omega, Nat.zero_le _, rfl, rfl, fun _ _ => rfl, hs⟩
  obtain ⟨iz, i1, i2, i3, i4, i5⟩ := iv_k
  have es := fstN_s (fun k => nrN st x k == f) k
  generalize hM : min k 90 = M at iz i1 i5
  have hsd := sdN_lt hx M
  refine gj_iload (pc' := 7) dX6_daysAloft_5 rfl rfl ?_
  refine gj_bipush (pc' := 9) dX6_daysAloft_7 rfl (by decide) ?_
  refine gj_icmp_gt (pc' := 12) (tgt := 46) dX6_daysAloft_9 (by decide) rfl (by omega) (fun c9 => ?_) (fun c9 => ?_)
  · refine gj_bipush (pc' := 48) dX6_daysAloft_46 rfl (by decide) ?_
    refine gj_iret rfl dX6_daysAloft_48 ?_
    obtain rfl : 90 = M := by omega
    have ea : alF f st x = -2 := by
      unfold alF
      rw [show 91 = k by omega]
      exact i2
    refine ⟨by rw [ea], i3, i4, ?_⟩
    rw [i5]
    unfold alE
    rw [if_pos ea]
  · refine gj_iload_n (pc' := 13) dX6_daysAloft_12 rfl rfl ?_
    refine gj_if_ne (pc' := 16) (tgt := 19) dX6_daysAloft_13 (by decide) rfl (by omega) (fun c13 => ?_) (fun c13 => ?_)
    · refine gj_iload (pc' := 21) dX6_daysAloft_19 rfl rfl ?_
      refine gj_bipush (pc' := 23) dX6_daysAloft_21 rfl (by decide) ?_
      refine gj_icmp_ge (pc' := 26) (tgt := 40) dX6_daysAloft_23 (by decide) rfl (by omega) (fun c23 => ?_) (fun c23 => ?_)
      · refine gj_iinc (pc' := 43) dX6_daysAloft_40 rfl rfl (by decide) ?_
        refine gj_goto (pc' := 5) dX6_daysAloft_43 (by decide) ?_
        refine gJ_wk (ih_k ?z_2 _ (by omega) ?iv_2) ?ll_2
        case ll_2 =>
          repeat' (first | exact True.intro | with_reducible exact rfl | refine And.intro ?_ ?_ | refine vI ?_ | refine vL ?_)
          all_goals omega
        have hne : (nrN st x k == f) = false := by
          rw [beq_eq_false_iff_ne]
          intro q
          obtain rfl : k = M := by omega
          omega
        rw [hne, if_neg (fun z => Bool.false_ne_true z.2)] at es
        have ef := es.trans i2
        by_cases q9 : k < 90
        · obtain rfl : k = M := by omega
          rw [show min (k + 1) 90 = k + 1 by omega]
          have en : nrN st x (k + 1) = nrN st x k + (if (75 * sdN x k + 74) % 65537 % 100 < st then 0 else 1) := rfl
          by_cases q8 : (75 * sdN x k + 74) % 65537 % 100 < st
          · rw [if_pos q8] at en
            first
            | (exfalso; omega)
            | exact ⟨by omega, by omega, ef, i3, fun o ho => (gui_n ho).trans (i4 o ho), by rw [gui_s, up1_s]; rfl⟩
          · rw [if_neg q8] at en
            first
            | (exfalso; omega)
            | exact ⟨by omega, by omega, ef, i3, fun o ho => (gui_n ho).trans (i4 o ho), by rw [gui_s, up1_s]; rfl⟩
        · rw [show min (k + 1) 90 = 90 by omega]
          obtain rfl : 90 = M := by omega
          first
          | (exfalso; omega)
          | exact ⟨by omega, by omega, ef, i3, i4, i5⟩
      · refine gj_aload_n (pc' := 27) dX6_daysAloft_26 rfl rfl ?_
        refine gc_X6_15 (pc' := 30) dX6_daysAloft_27 rfl (s_drawn i5 hsd) rfl (by first | rfl | assumption) (by decide) rfl (Nat.le_of_ble_eq_true rfl) (fun v9 h9 q9 => ?_)
        obtain ⟨rfl, rfl⟩ := q9
        show gJ _ _ _ _ _ _ _ [.int (zI _)] _ _
        refine gj_bipush (pc' := 32) dX6_daysAloft_30 rfl (by decide) ?_
        refine gj_irem (pc' := 33) dX6_daysAloft_32 rfl (by omega) (by omega) ?_
        refine gj_iload_n (pc' := 34) dX6_daysAloft_33 rfl rfl ?_
        refine gj_icmp_lt (pc' := 37) (tgt := 40) dX6_daysAloft_34 (by decide) rfl (by omega) (fun c34 => ?_) (fun c34 => ?_)
        · refine gj_iinc (pc' := 43) dX6_daysAloft_40 rfl rfl (by decide) ?_
          refine gj_goto (pc' := 5) dX6_daysAloft_43 (by decide) ?_
          refine gJ_wk (ih_k ?z_3 _ (by omega) ?iv_3) ?ll_3
          case ll_3 =>
            repeat' (first | exact True.intro | with_reducible exact rfl | refine And.intro ?_ ?_ | refine vI ?_ | refine vL ?_)
            all_goals omega
          have hne : (nrN st x k == f) = false := by
            rw [beq_eq_false_iff_ne]
            intro q
            obtain rfl : k = M := by omega
            omega
          rw [hne, if_neg (fun z => Bool.false_ne_true z.2)] at es
          have ef := es.trans i2
          by_cases q9 : k < 90
          · obtain rfl : k = M := by omega
            rw [show min (k + 1) 90 = k + 1 by omega]
            have en : nrN st x (k + 1) = nrN st x k + (if (75 * sdN x k + 74) % 65537 % 100 < st then 0 else 1) := rfl
            by_cases q8 : (75 * sdN x k + 74) % 65537 % 100 < st
            · rw [if_pos q8] at en
              first
              | (exfalso; omega)
              | exact ⟨by omega, by omega, ef, i3, fun o ho => (gui_n ho).trans (i4 o ho), by rw [gui_s, up1_s]; rfl⟩
            · rw [if_neg q8] at en
              first
              | (exfalso; omega)
              | exact ⟨by omega, by omega, ef, i3, fun o ho => (gui_n ho).trans (i4 o ho), by rw [gui_s, up1_s]; rfl⟩
          · rw [show min (k + 1) 90 = 90 by omega]
            obtain rfl : 90 = M := by omega
            first
            | (exfalso; omega)
            | exact ⟨by omega, by omega, ef, i3, i4, i5⟩
        · refine gj_iinc (pc' := 40) dX6_daysAloft_37 rfl rfl (by decide) ?_
          refine gj_iinc (pc' := 43) dX6_daysAloft_40 rfl rfl (by decide) ?_
          refine gj_goto (pc' := 5) dX6_daysAloft_43 (by decide) ?_
          refine gJ_wk (ih_k ?z_4 _ (by omega) ?iv_4) ?ll_4
          case ll_4 =>
            repeat' (first | exact True.intro | with_reducible exact rfl | refine And.intro ?_ ?_ | refine vI ?_ | refine vL ?_)
            all_goals omega
          have hne : (nrN st x k == f) = false := by
            rw [beq_eq_false_iff_ne]
            intro q
            obtain rfl : k = M := by omega
            omega
          rw [hne, if_neg (fun z => Bool.false_ne_true z.2)] at es
          have ef := es.trans i2
          by_cases q9 : k < 90
          · obtain rfl : k = M := by omega
            rw [show min (k + 1) 90 = k + 1 by omega]
            have en : nrN st x (k + 1) = nrN st x k + (if (75 * sdN x k + 74) % 65537 % 100 < st then 0 else 1) := rfl
            by_cases q8 : (75 * sdN x k + 74) % 65537 % 100 < st
            · rw [if_pos q8] at en
              first
              | (exfalso; omega)
              | exact ⟨by omega, by omega, ef, i3, fun o ho => (gui_n ho).trans (i4 o ho), by rw [gui_s, up1_s]; rfl⟩
            · rw [if_neg q8] at en
              first
              | (exfalso; omega)
              | exact ⟨by omega, by omega, ef, i3, fun o ho => (gui_n ho).trans (i4 o ho), by rw [gui_s, up1_s]; rfl⟩
          · rw [show min (k + 1) 90 = 90 by omega]
            obtain rfl : 90 = M := by omega
            first
            | (exfalso; omega)
            | exact ⟨by omega, by omega, ef, i3, i4, i5⟩
    · refine gj_iload (pc' := 18) dX6_daysAloft_16 rfl rfl ?_
      refine gj_iret rfl dX6_daysAloft_18 ?_
      obtain rfl : k = M := by omega
      have hit : (nrN st x k == f) = true := by
        rw [beq_iff_eq]
        omega
      have ea : alF f st x = (k : Int) := fstN_hit i2 hit (by omega)
      refine ⟨by rw [ea], i3, i4, ?_⟩
      rw [i5]
      unfold alE
      rw [ea, if_neg (by omega), Int.toNat_natCast]
