/-! the class's Reader: houses, what was seen, a clean draft -/
def ptH (B : Nat → Nat) (e : Nat) (T : Nat → Nat) (u : Int) (p : Nat) : Nat × Nat × Nat := if tNm B e p = false then (1, tS B e p, 0) else if fd T (tWd B e p) = -2 ∨ 6 ≤ fd T (tWd B e p) then (2, tS B e p, 0) else if fd T (tWd B e p) = u then (3, tS B e p, 0) else (0, (fd T (tWd B e p)).toNat, tEn B e p)
theorem s_takeHouse {h : gH} {B : Nat → Nat} {e p m : Nat} {T sl : Nat → Nat} {u : Int} (hC : CTk h B e p) (hN : CN h T m sl) (hU : NU T) (hu : -1 ≤ u ∧ u < 6) : gSp 7 yX4_takeHouse cX4_takeHouse 3 (some .boolean) [.ref 1, .int (zI u)] h (fun v h' => v = some (.int (zI (bI (decide ((ptH B e T u p).1 = 0))))) ∧ rdP h h' B e (ptH B e T u p)) := by
  have hr : ptH B e T u p = if tNm B e p = false then (1, tS B e p, 0) else if fd T (tWd B e p) = -2 ∨ 6 ≤ fd T (tWd B e p) then (2, tS B e p, 0) else if fd T (tWd B e p) = u then (3, tS B e p, 0) else (0, (fd T (tWd B e p)).toNat, tEn B e p) := rfl
  obtain ⟨hm16, -⟩ := CN_le hN
  obtain ⟨n1, n2, n3, n4⟩ := id hN
  have hT := hC.2.2.2.2.2.1
  refine gSp_of (by decide +kernel) (Nat.le_of_ble_eq_true rfl) ?_
  show gJ RX4 cX4_takeHouse 3 (some .boolean) _ 0 [some (.ref 1), some (.int (zI u)), none] [] _ _
  refine gj_aload_n (pc' := 1) dX4_takeHouse_0 rfl rfl ?_
  refine gf_X4_16 (pc' := 4) dX4_takeHouse_1 rfl (by first | rfl | assumption) rfl ?_
  refine gr_X4_214 (pc' := 7) dX4_takeHouse_4 rfl (s_isName hC) rfl (by first | rfl | assumption) (by decide) rfl (Nat.le_of_ble_eq_true rfl) ?_
  first | refine gj_ifB_ne (pc' := 10) (tgt := 16) dX4_takeHouse_7 (by decide) rfl (fun c7 => ?_) (fun c7 => ?_) | refine gj_if_ne (pc' := 10) (tgt := 16) dX4_takeHouse_7 (by decide) rfl (by omega) (fun c7 => ?_) (fun c7 => ?_)
  · have hs1 := tNm_1 c7
    have htl := tk_let hC.2.1 hs1
    have hwl : tWd B e p < 1099511627776 := wdN_8 _ htl.1
    rw [if_neg (by rw [c7]; decide)] at hr
    refine gj_aload_n (pc' := 17) dX4_takeHouse_16 rfl rfl ?_
    refine gj_aload_n (pc' := 18) dX4_takeHouse_17 rfl rfl ?_
    refine gf_X4_16 (pc' := 21) dX4_takeHouse_18 rfl (by first | rfl | assumption) rfl ?_
    refine gf_X4_217 (pc' := 24) dX4_takeHouse_21 rfl (by first | rfl | assumption) rfl ?_
    rw [hT hs1]
    refine gc_X4_221 (pc' := 27) dX4_takeHouse_24 rfl (s_nameAt hN hU hwl) rfl (by first | rfl | assumption) (by decide) rfl (Nat.le_of_ble_eq_true rfl) (fun v9 h9 q9 => ?_)
    obtain ⟨e9, r, rfl, hra⟩ := q9
    rw [e9]
    clear e9
    have hrb : (r = -1 ∧ fd T (tWd B e p) = -2) ∨ (0 ≤ r ∧ r < 16 ∧ 0 ≤ fd T (tWd B e p)) := by
      rcases hra with q | ⟨i, i1, i2, i3⟩
      · exact Or.inl q
      · exact Or.inr ⟨by omega, by omega, by omega⟩
    show gJ _ _ _ _ _ _ _ (.int (zI r) :: _) _ _
    refine gj_istore_n (pc' := 28) dX4_takeHouse_27 rfl (by decide) ?_
    refine gj_iload_n (pc' := 29) dX4_takeHouse_28 rfl rfl ?_
    refine gj_if_lt (pc' := 32) (tgt := 41) dX4_takeHouse_29 (by decide) rfl (by omega) (fun c29 => ?_) (fun c29 => ?_)
    · refine gj_aload_n (pc' := 42) dX4_takeHouse_41 rfl rfl ?_
      refine gj_iconst (pc' := 43) dX4_takeHouse_42 rfl ?_
      refine gc_X4_66 (pc' := 46) dX4_takeHouse_43 rfl (s_fail (k := 2) hC.2.2.1) rfl (by first | rfl | assumption) (by decide) rfl (Nat.le_of_ble_eq_true rfl) (fun v9 h9 q9 => ?_)
      obtain ⟨rfl, q1, q2, q3⟩ := q9
      show gJ _ _ _ _ _ _ _ [.int (zI 0)] _ _
      refine gj_zret rfl (by first | rfl | exact gnZ _ | assumption) dX4_takeHouse_46 ?_
      rw [if_pos (by omega)] at hr
      rw [hr]
      exact ⟨rfl, q1, fun z => absurd (show (2 : Nat) = 0 from z) (by decide), fun _ => ⟨q2, q3⟩⟩
    · obtain ⟨i, hri, i1, i2⟩ : ∃ i : Nat, r = (i : Int) ∧ i < m ∧ fd T (tWd B e p) = (sl i : Int) := by
        rcases hra with q | q
        · exfalso; omega
        · exact q
      subst hri
      obtain ⟨a1, a2, a3, a4⟩ := n2 i i1
      obtain ⟨x, hx⟩ : ∃ x : Int, x = (if sl i < 6 then (sl i : Int) else -1) := ⟨_, rfl⟩
      rw [← hx] at a4
      have hx2 : (x = (sl i : Int) ∧ sl i < 6) ∨ (x = -1 ∧ 6 ≤ sl i) := by
        by_cases q : sl i < 6
        · exact Or.inl ⟨by rw [hx, if_pos q], q⟩
        · exact Or.inr ⟨by rw [hx, if_neg q], by omega⟩
      refine gj_aload_n (pc' := 33) dX4_takeHouse_32 rfl rfl ?_
      refine gf_X4_26 (pc' := 36) dX4_takeHouse_33 rfl (by first | rfl | assumption) rfl ?_
      refine gj_iload_n (pc' := 37) dX4_takeHouse_36 rfl rfl ?_
      refine gj_iald (pc' := 38) (j := i) (by first | rfl | assumption) (by omega) (by omega) (by decide) dX4_takeHouse_37 rfl ?_
      rw [a4]
      refine gj_if_ge (pc' := 41) (tgt := 47) dX4_takeHouse_38 (by decide) rfl (by omega) (fun c38 => ?_) (fun c38 => ?_)
      · refine gj_aload_n (pc' := 48) dX4_takeHouse_47 rfl rfl ?_
        refine gf_X4_26 (pc' := 51) dX4_takeHouse_48 rfl (by first | rfl | assumption) rfl ?_
        refine gj_iload_n (pc' := 52) dX4_takeHouse_51 rfl rfl ?_
        refine gj_iald (pc' := 53) (j := i) (by first | rfl | assumption) (by omega) (by omega) (by decide) dX4_takeHouse_52 rfl ?_
        rw [a4]
        refine gj_iload_n (pc' := 54) dX4_takeHouse_53 rfl rfl ?_
        refine gj_icmp_ne (pc' := 57) (tgt := 63) dX4_takeHouse_54 (by decide) rfl (by omega) (fun c54 => ?_) (fun c54 => ?_)
        · refine gj_aload_n (pc' := 64) dX4_takeHouse_63 rfl rfl ?_
          refine gj_aload_n (pc' := 65) dX4_takeHouse_64 rfl rfl ?_
          refine gf_X4_26 (pc' := 68) dX4_takeHouse_65 rfl (by first | rfl | assumption) rfl ?_
          refine gj_iload_n (pc' := 69) dX4_takeHouse_68 rfl rfl ?_
          refine gj_iald (pc' := 70) (j := i) (by first | rfl | assumption) (by omega) (by omega) (by decide) dX4_takeHouse_69 rfl ?_
          rw [a4]
          refine gp_X4_130 (pc' := 73) dX4_takeHouse_70 rfl (by first | rfl | assumption) rfl ?_
          refine gj_aload_n (pc' := 74) dX4_takeHouse_73 rfl rfl ?_
          refine gf_X4_16 (pc' := 77) dX4_takeHouse_74 rfl (by first | rfl | assumption) rfl ?_
          refine gc_X4_63 (pc' := 80) dX4_takeHouse_77 rfl (s_stepT (CTk.put (k := 5) hC)) rfl (by first | rfl | assumption) (by decide) rfl (Nat.le_of_ble_eq_true rfl) (fun v9 h9 q9 => ?_)
          obtain ⟨rfl, u1, u2⟩ := q9
          show gJ _ _ _ _ _ _ _ [] _ _
          refine gj_iconst (pc' := 81) dX4_takeHouse_80 rfl ?_
          refine gj_zret rfl (by first | rfl | exact gnZ _ | assumption) dX4_takeHouse_81 ?_
          rw [if_neg (by omega), if_neg (by omega)] at hr
          rw [hr]
          have hxf : x = (((fd T (tWd B e p)).toNat : Nat) : Int) := by omega
          exact ⟨rfl, (reE.put (by decide)).tr u1.re, fun _ => ⟨u2, by rw [(u1.2.1 1 (by decide)).1, gui_s, up1_s]; exact hxf⟩, fun z => absurd rfl z⟩
        · refine gj_aload_n (pc' := 58) dX4_takeHouse_57 rfl rfl ?_
          refine gj_iconst (pc' := 59) dX4_takeHouse_58 rfl ?_
          refine gc_X4_66 (pc' := 62) dX4_takeHouse_59 rfl (s_fail (k := 3) hC.2.2.1) rfl (by first | rfl | assumption) (by decide) rfl (Nat.le_of_ble_eq_true rfl) (fun v9 h9 q9 => ?_)
          obtain ⟨rfl, q1, q2, q3⟩ := q9
          show gJ _ _ _ _ _ _ _ [.int (zI 0)] _ _
          refine gj_zret rfl (by first | rfl | exact gnZ _ | assumption) dX4_takeHouse_62 ?_
          rw [if_neg (by omega), if_pos (by omega)] at hr
          rw [hr]
          exact ⟨rfl, q1, fun z => absurd (show (3 : Nat) = 0 from z) (by decide), fun _ => ⟨q2, q3⟩⟩
      · refine gj_aload_n (pc' := 42) dX4_takeHouse_41 rfl rfl ?_
        refine gj_iconst (pc' := 43) dX4_takeHouse_42 rfl ?_
        refine gc_X4_66 (pc' := 46) dX4_takeHouse_43 rfl (s_fail (k := 2) hC.2.2.1) rfl (by first | rfl | assumption) (by decide) rfl (Nat.le_of_ble_eq_true rfl) (fun v9 h9 q9 => ?_)
        obtain ⟨rfl, q1, q2, q3⟩ := q9
        show gJ _ _ _ _ _ _ _ [.int (zI 0)] _ _
        refine gj_zret rfl (by first | rfl | exact gnZ _ | assumption) dX4_takeHouse_46 ?_
        rw [if_pos (by omega)] at hr
        rw [hr]
        exact ⟨rfl, q1, fun z => absurd (show (2 : Nat) = 0 from z) (by decide), fun _ => ⟨q2, q3⟩⟩
  · refine gj_aload_n (pc' := 11) dX4_takeHouse_10 rfl rfl ?_
    refine gj_iconst (pc' := 12) dX4_takeHouse_11 rfl ?_
    refine gc_X4_66 (pc' := 15) dX4_takeHouse_12 rfl (s_fail (k := 1) hC.2.2.1) rfl (by first | rfl | assumption) (by decide) rfl (Nat.le_of_ble_eq_true rfl) (fun v9 h9 q9 => ?_)
    obtain ⟨rfl, q1, q2, q3⟩ := q9
    show gJ _ _ _ _ _ _ _ [.int (zI 0)] _ _
    refine gj_zret rfl (by first | rfl | exact gnZ _ | assumption) dX4_takeHouse_15 ?_
    rw [if_pos c7] at hr
    rw [hr]
    exact ⟨rfl, q1, fun z => absurd (show (1 : Nat) = 0 from z) (by decide), fun _ => ⟨q2, q3⟩⟩
/-- the same house on the same day -/
def sawS (T : Nat → Nat) (a d : Nat) : Bool := decide (fstN (fun k => decide (T (60 + 3 * k) = a) && decide (T (61 + 3 * k) = d)) (T 6) ≠ -2)
theorem sawS_t {T : Nat → Nat} {a d k : Nat} (hk : k < T 6) (h1 : T (60 + 3 * k) = a) (h2 : T (61 + 3 * k) = d) : sawS T a d = true := by
  have hp : (fun k => decide (T (60 + 3 * k) = a) && decide (T (61 + 3 * k) = d)) k = true := by
    show (decide (T (60 + 3 * k) = a) && decide (T (61 + 3 * k) = d)) = true
    rw [decide_eq_true h1, decide_eq_true h2]
    rfl
  exact decide_eq_true (fstN_ne (p := fun k => decide (T (60 + 3 * k) = a) && decide (T (61 + 3 * k) = d)) (j := k) hp _ hk)
theorem sawS_f {T : Nat → Nat} {a d : Nat} (hn : ∀ k, k < T 6 → ¬ (T (60 + 3 * k) = a ∧ T (61 + 3 * k) = d)) : sawS T a d = false := by
  refine decide_eq_false (fun z => z (fstN_no (p := fun k => decide (T (60 + 3 * k) = a) && decide (T (61 + 3 * k) = d)) (fun k hk => ?_)))
  show (decide (T (60 + 3 * k) = a) && decide (T (61 + 3 * k) = d)) = false
  have := hn k hk
  by_cases q : T (60 + 3 * k) = a
  · by_cases q2 : T (61 + 3 * k) = d
    · exact absurd ⟨q, q2⟩ this
    · rw [decide_eq_false q2, Bool.and_false]
  · rw [decide_eq_false q, Bool.false_and]
theorem s_wasSeen {h : gH} {t a d : Nat} {T : Nat → Nat} (ht : isT t) (hA : StrA h t T) (h6 : T 6 ≤ 5) (hv : ∀ k, k < T 6 → T (60 + 3 * k) < 6 ∧ T (61 + 3 * k) ≤ 30) (ha : a < 6) (hd : d ≤ 999) : gSp 1 yX7_wasSeen cX7_wasSeen 4 (some .boolean) [.ref (t + 10), .int (zI (a : Int)), .int (zI (d : Int))] h (fun v h' => v = some (.int (zI (bI (sawS T a d)))) ∧ h' = h) := by
  obtain ⟨s0, s1, s2, s3, s4, s5, s6, s7, s8, s9, -⟩ := shS ht
  have htt : t = 6 ∨ t = 29 := ht
  have a1 := hA.2.1
  have a3 := hA.2.2.2
  refine gSp_of (by decide +kernel) (Nat.le_of_ble_eq_true rfl) ?_
  show gJ RX7 cX7_wasSeen 4 (some .boolean) _ 0 [some (.ref (t + 10)), some (.int (zI (a : Int))), some (.int (zI (d : Int))), none] [] _ _
  refine gj_iconst (pc' := 1) dX7_wasSeen_0 rfl ?_
  refine gj_istore_n (pc' := 2) dX7_wasSeen_1 rfl (by decide) ?_
  refine gJ_wk (gJ_fH0 (L := fun i  => [some (.ref (t + 10)), some (.int (zI (a : Int))), some (.int (zI (d : Int))), some (.int (zI (i : Int)))]) (I := fun i  hp => hp = h ∧ (∀ j, j < i → ¬ (T (60 + 3 * j) = a ∧ T (61 + 3 * j) = d))) (T 6) (fun i  hp hb_i iv_i ih_i => ?step_1) (0) (Nat.zero_le _)  _ ?iv0_1) ?ll0_1
  case ll0_1 =>
    repeat' (first | exact True.intro | with_reducible exact rfl | refine And.intro ?_ ?_ | refine vI ?_ | refine vL ?_)
    all_goals first | rfl | omega
  case iv0_1 =>
    exact ⟨rfl, fun j hj => absurd hj (Nat.not_lt_zero j)⟩
  obtain ⟨rfl, i2⟩ := iv_i
  refine gj_iload_n (pc' := 3) dX7_wasSeen_2 rfl rfl ?_
  refine gj_aload_n (pc' := 4) dX7_wasSeen_3 rfl rfl ?_
  refine gf_X7_47 (pc' := 7) dX7_wasSeen_4 rfl (by first | rfl | assumption) rfl ?_
  rw [a1]
  refine gj_icmp_ge (pc' := 10) (tgt := 38) dX7_wasSeen_7 (by decide) rfl (by omega) (fun c7 => ?_) (fun c7 => ?_)
  · refine gj_iconst (pc' := 39) dX7_wasSeen_38 rfl ?_
    refine gj_zret rfl (by first | rfl | exact gnZ _ | assumption) dX7_wasSeen_39 ?_
    exact ⟨by rw [sawS_f (fun k hk => i2 k (by omega))]; rfl, rfl⟩
  · obtain ⟨b1, b2, b3⟩ := a3 i (by omega)
    have hvi := hv i (by omega)
    refine gj_aload_n (pc' := 11) dX7_wasSeen_10 rfl rfl ?_
    refine gf_X7_25 (pc' := 14) dX7_wasSeen_11 rfl (by first | rfl | assumption) rfl ?_
    refine gj_iload_n (pc' := 15) dX7_wasSeen_14 rfl rfl ?_
    refine gj_iald (pc' := 16) (j := i) (by first | rfl | assumption) (by omega) (by omega) (by decide) dX7_wasSeen_15 rfl ?_
    rw [b1]
    refine gj_iload_n (pc' := 17) dX7_wasSeen_16 rfl rfl ?_
    refine gj_icmp_ne (pc' := 20) (tgt := 32) dX7_wasSeen_17 (by decide) rfl (by omega) (fun c17 => ?_) (fun c17 => ?_)
    · refine gj_iinc (pc' := 35) dX7_wasSeen_32 rfl rfl (by decide) ?_
      refine gj_goto (pc' := 2) dX7_wasSeen_35 (by decide) ?_
      refine gJ_wk (ih_i  _ (by omega) ?iv_2) ?ll_2
      case ll_2 =>
        repeat' (first | exact True.intro | with_reducible exact rfl | refine And.intro ?_ ?_ | refine vI ?_ | refine vL ?_)
        all_goals omega
      refine ⟨rfl, fun j hj => ?_⟩
      by_cases q : j = i
      · rw [q]
        intro z
        omega
      · exact i2 j (by omega)
    · refine gj_aload_n (pc' := 21) dX7_wasSeen_20 rfl rfl ?_
      refine gf_X7_28 (pc' := 24) dX7_wasSeen_21 rfl (by first | rfl | assumption) rfl ?_
      refine gj_iload_n (pc' := 25) dX7_wasSeen_24 rfl rfl ?_
      refine gj_iald (pc' := 26) (j := i) (by first | rfl | assumption) (by omega) (by omega) (by decide) dX7_wasSeen_25 rfl ?_
      rw [b2]
      refine gj_iload_n (pc' := 27) dX7_wasSeen_26 rfl rfl ?_
      refine gj_icmp_ne (pc' := 30) (tgt := 32) dX7_wasSeen_27 (by decide) rfl (by omega) (fun c27 => ?_) (fun c27 => ?_)
      · refine gj_iinc (pc' := 35) dX7_wasSeen_32 rfl rfl (by decide) ?_
        refine gj_goto (pc' := 2) dX7_wasSeen_35 (by decide) ?_
        refine gJ_wk (ih_i  _ (by omega) ?iv_3) ?ll_3
        case ll_3 =>
          repeat' (first | exact True.intro | with_reducible exact rfl | refine And.intro ?_ ?_ | refine vI ?_ | refine vL ?_)
          all_goals omega
        refine ⟨rfl, fun j hj => ?_⟩
        by_cases q : j = i
        · rw [q]
          intro z
          omega
        · exact i2 j (by omega)
      · refine gj_iconst (pc' := 31) dX7_wasSeen_30 rfl ?_
        refine gj_zret rfl (by first | rfl | exact gnZ _ | assumption) dX7_wasSeen_31 ?_
        exact ⟨by rw [sawS_t (k := i) (by omega) (by omega) (by omega)]; rfl, rfl⟩
/-- may one more be told -/
def ptY (B : Nat → Nat) (e : Nat) (T : Nat → Nat) (a b p : Nat) : Nat × Nat × Nat := if T 0 = 0 then (6, tS B e p, 0) else if a < b then (0, 0, p) else (5, tS B e p, 0)
theorem s_mayTell {h : gH} {B : Nat → Nat} {e p a b : Nat} {T : Nat → Nat} (hC : CTk h B e p) (hL : h.1 1 4 = bI (decide (T 0 ≠ 0))) (hab : a ≤ 999 ∧ b ≤ 999) : gSp 3 yX4_mayTell cX4_mayTell 3 (some .boolean) [.ref 1, .int (zI (a : Int)), .int (zI (b : Int))] h (fun v h' => v = some (.int (zI (bI (decide ((ptY B e T a b p).1 = 0))))) ∧ reE h h' ∧ ((ptY B e T a b p).1 = 0 → h' = h) ∧ ((ptY B e T a b p).1 ≠ 0 → h'.1 1 6 = ((ptY B e T a b p).1 : Int) ∧ h'.1 1 7 = ((ptY B e T a b p).2.1 : Int))) := by
  have hr : ptY B e T a b p = if T 0 = 0 then (6, tS B e p, 0) else if a < b then (0, 0, p) else (5, tS B e p, 0) := rfl
  refine gSp_of (by decide +kernel) (Nat.le_of_ble_eq_true rfl) ?_
  show gJ RX4 cX4_mayTell 3 (some .boolean) _ 0 [some (.ref 1), some (.int (zI (a : Int))), some (.int (zI (b : Int)))] [] _ _
  refine gj_aload_n (pc' := 1) dX4_mayTell_0 rfl rfl ?_
  refine gf_X4_45 (pc' := 4) dX4_mayTell_1 rfl (by first | rfl | assumption) rfl ?_
  rw [hL]
  first | refine gj_ifB_ne (pc' := 7) (tgt := 14) dX4_mayTell_4 (by decide) rfl (fun c4 => ?_) (fun c4 => ?_) | refine gj_if_ne (pc' := 7) (tgt := 14) dX4_mayTell_4 (by decide) rfl (by omega) (fun c4 => ?_) (fun c4 => ?_)
  · first | have g4 := of_decide_eq_true c4 | have g4 := of_decide_eq_false c4 | skip
    refine gj_iload_n (pc' := 15) dX4_mayTell_14 rfl rfl ?_
    refine gj_iload_n (pc' := 16) dX4_mayTell_15 rfl rfl ?_
    refine gj_icmp_lt (pc' := 19) (tgt := 27) dX4_mayTell_16 (by decide) rfl (by omega) (fun c16 => ?_) (fun c16 => ?_)
    · refine gj_iconst (pc' := 28) dX4_mayTell_27 rfl ?_
      refine gj_goto (pc' := 32) dX4_mayTell_28 (by decide) ?_
      refine gj_zret rfl (by first | rfl | exact gnZ _ | assumption) dX4_mayTell_32 ?_
      first
      | (rw [if_neg (by omega), if_pos (by omega)] at hr
         rw [hr]
         exact ⟨rfl, reE.rf _, fun _ => rfl, fun z => absurd rfl z⟩)
      | (rw [if_neg (by omega), if_neg (by omega)] at hr
         rw [hr]
         exact ⟨rfl, q1, fun z => absurd (show (5 : Nat) = 0 from z) (by decide), fun _ => ⟨q2, q3⟩⟩)
    · refine gj_aload_n (pc' := 20) dX4_mayTell_19 rfl rfl ?_
      refine gj_iconst (pc' := 21) dX4_mayTell_20 rfl ?_
      refine gc_X4_66 (pc' := 24) dX4_mayTell_21 rfl (s_fail (k := 5) hC.2.2.1) rfl (by first | rfl | assumption) (by decide) rfl (Nat.le_of_ble_eq_true rfl) (fun v9 h9 q9 => ?_)
      obtain ⟨rfl, q1, q2, q3⟩ := q9
      show gJ _ _ _ _ _ _ _ [.int (zI 0)] _ _
      refine gj_if_eq (pc' := 27) (tgt := 31) dX4_mayTell_24 (by decide) rfl (by omega) (fun c24 => ?_) (fun c24 => ?_)
      · first | have g24 := of_decide_eq_true c24 | have g24 := of_decide_eq_false c24 | skip
        refine gj_iconst (pc' := 32) dX4_mayTell_31 rfl ?_
        refine gj_zret rfl (by first | rfl | exact gnZ _ | assumption) dX4_mayTell_32 ?_
        first
        | (rw [if_neg (by omega), if_pos (by omega)] at hr
           rw [hr]
           exact ⟨rfl, reE.rf _, fun _ => rfl, fun z => absurd rfl z⟩)
        | (rw [if_neg (by omega), if_neg (by omega)] at hr
           rw [hr]
           exact ⟨rfl, q1, fun z => absurd (show (5 : Nat) = 0 from z) (by decide), fun _ => ⟨q2, q3⟩⟩)
      · exfalso; omega
  · first | have g4 := of_decide_eq_true c4 | have g4 := of_decide_eq_false c4 | skip
    refine gj_aload_n (pc' := 8) dX4_mayTell_7 rfl rfl ?_
    refine gj_bipush (pc' := 10) dX4_mayTell_8 rfl (by decide) ?_
    refine gc_X4_66 (pc' := 13) dX4_mayTell_10 rfl (s_fail (k := 6) hC.2.2.1) rfl (by first | rfl | assumption) (by decide) rfl (Nat.le_of_ble_eq_true rfl) (fun v9 h9 q9 => ?_)
    obtain ⟨rfl, q1, q2, q3⟩ := q9
    show gJ _ _ _ _ _ _ _ [.int (zI 0)] _ _
    refine gj_zret rfl (by first | rfl | exact gnZ _ | assumption) dX4_mayTell_13 ?_
    rw [if_pos (by omega)] at hr
    rw [hr]
    exact ⟨rfl, q1, fun z => absurd (show (6 : Nat) = 0 from z) (by decide), fun _ => ⟨q2, q3⟩⟩
theorem s_clearS {h : gH} {t : Nat} (ht : isT t) : gSp 1 yX7_clear cX7_clear 1 none [.ref (t + 10)] h (fun v h' => v = none ∧ h' = gui (gui (gui h (t + 10) 0 0) (t + 10) 4 0) (t + 10) 9 0) := by
  obtain ⟨s0, -⟩ := shS ht
  refine gSp_of (by decide +kernel) (Nat.le_of_ble_eq_true rfl) ?_
  show gJ RX7 cX7_clear 1 none _ 0 [some (.ref (t + 10))] [] _ _
  refine gj_aload_n (pc' := 1) dX7_clear_0 rfl rfl ?_
  refine gj_iconst (pc' := 2) dX7_clear_1 rfl ?_
  refine gp_X7_43 (pc' := 5) dX7_clear_2 rfl (by first | rfl | assumption) rfl ?_
  refine gj_aload_n (pc' := 6) dX7_clear_5 rfl rfl ?_
  refine gj_iconst (pc' := 7) dX7_clear_6 rfl ?_
  refine gp_X7_47 (pc' := 10) dX7_clear_7 rfl (by first | rfl | assumption) rfl ?_
  refine gj_aload_n (pc' := 11) dX7_clear_10 rfl rfl ?_
  refine gj_iconst (pc' := 12) dX7_clear_11 rfl ?_
  refine gp_X7_50 (pc' := 15) dX7_clear_12 rfl (by first | rfl | assumption) rfl ?_
  refine gj_vret rfl dX7_clear_15 ?_
  exact ⟨rfl, rfl⟩
theorem s_clear {h : gH} {t : Nat} (ht : isT t) : gSp 3 yX9_clear cX9_clear 1 none [.ref t] h (fun v h' => v = none ∧ h'.2 = h.2 ∧ (∀ o, o ≠ t → o ≠ t + 10 → h'.1 o = h.1 o) ∧ TownA h' t (fun _ => 0) ∧ StrA h' t (fun _ => 0)) := by
  obtain ⟨t0, -⟩ := shT ht
  obtain ⟨s0, -⟩ := shS ht
  have htt : t = 6 ∨ t = 29 := ht
  refine gSp_of (by decide +kernel) (Nat.le_of_ble_eq_true rfl) ?_
  show gJ RX9 cX9_clear 1 none _ 0 [some (.ref t)] [] _ _
  refine gj_aload_n (pc' := 1) dX9_clear_0 rfl rfl ?_
  refine gj_iconst (pc' := 2) dX9_clear_1 rfl ?_
  refine gp_X9_44 (pc' := 5) dX9_clear_2 rfl (by first | rfl | assumption) rfl ?_
  refine gj_aload_n (pc' := 6) dX9_clear_5 rfl rfl ?_
  refine gj_iconst (pc' := 7) dX9_clear_6 rfl ?_
  refine gp_X9_48 (pc' := 10) dX9_clear_7 rfl (by first | rfl | assumption) rfl ?_
  refine gj_aload_n (pc' := 11) dX9_clear_10 rfl rfl ?_
  refine gj_iconst (pc' := 12) dX9_clear_11 rfl ?_
  refine gp_X9_51 (pc' := 15) dX9_clear_12 rfl (by first | rfl | assumption) rfl ?_
  refine gj_aload_n (pc' := 16) dX9_clear_15 rfl rfl ?_
  refine gj_iconst (pc' := 17) dX9_clear_16 rfl ?_
  refine gp_X9_54 (pc' := 20) dX9_clear_17 rfl (by first | rfl | assumption) rfl ?_
  refine gj_aload_n (pc' := 21) dX9_clear_20 rfl rfl ?_
  refine gj_iconst (pc' := 22) dX9_clear_21 rfl ?_
  refine gp_X9_57 (pc' := 25) dX9_clear_22 rfl (by first | rfl | assumption) rfl ?_
  refine gj_aload_n (pc' := 26) dX9_clear_25 rfl rfl ?_
  refine gf_X9_40 (pc' := 29) dX9_clear_26 rfl (by first | rfl | assumption) rfl ?_
  refine gc_X9_60 (pc' := 32) dX9_clear_29 rfl (s_clearS ht) rfl (by first | rfl | assumption) (by decide) rfl (Nat.le_of_ble_eq_true rfl) (fun v9 h9 q9 => ?_)
  obtain ⟨rfl, rfl⟩ := q9
  show gJ _ _ _ _ _ _ _ [] _ _
  refine gj_vret rfl dX9_clear_32 ?_
  refine ⟨rfl, rfl, fun o o1 o2 => ?_, ⟨fun k hk => ?_, fun k hk => absurd hk (Nat.not_lt_zero k), fun k hk => absurd hk (Nat.not_lt_zero k)⟩, ?_, ?_, fun k hk => absurd hk (Nat.not_lt_zero k), fun k hk => absurd hk (Nat.not_lt_zero k)⟩
  · rw [gui_n o2, gui_n o2, gui_n o2, gui_n o1, gui_n o1, gui_n o1, gui_n o1, gui_n o1]
  · rw [gui_n (by omega), gui_n (by omega), gui_n (by omega), gui_s, gui_s, gui_s, gui_s, gui_s]
    rcases (show k = 0 ∨ k = 1 ∨ k = 2 ∨ k = 3 ∨ k = 4 by omega) with rfl | rfl | rfl | rfl | rfl <;> rfl
  · rw [gui_s, gui_s, gui_s]
    rfl
  · rw [gui_s, gui_s, gui_s]
    rfl
