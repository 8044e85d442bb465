/-! the check's model: what only reads -/
def MA (h : gH) (T S : Nat → Nat) : Prop := (∀ k, k < 219 → h.1 145 k = (T k : Int)) ∧ (∀ k, k < 22 → h.1 147 k = (S k : Int))
def MI (h : gH) (T S : Nat → Nat) : Prop := MA h T S ∧ TV T ∧ SV T S
theorem m_in {h : gH} {v a b : Int} (hv : -2147483648 ≤ v ∧ v ≤ 2147483647) (ha : -2147483648 ≤ a ∧ a ≤ 2147483647) (hb : -2147483648 ≤ b ∧ b ≤ 2147483647) : gSp 1 yX11_in cX11_in 3 (some .boolean) [.int (zI v), .int (zI a), .int (zI b)] h (gR (.int (zI (bI (decide (a ≤ v ∧ v ≤ b))))) h) := by
  refine gSp_of (by decide +kernel) (Nat.le_of_ble_eq_true rfl) ?_
  show gJ RX11 cX11_in 3 (some .boolean) _ 0 [some (.int (zI v)), some (.int (zI a)), some (.int (zI b))] [] _ _
  refine gj_iload_n (pc' := 1) dX11_in_0 rfl rfl ?_
  refine gj_iload_n (pc' := 2) dX11_in_1 rfl rfl ?_
  refine gj_icmp_lt (pc' := 5) (tgt := 14) dX11_in_2 (by decide) rfl (by omega) (fun c2 => ?_) (fun c2 => ?_)
  · refine gj_iconst (pc' := 15) dX11_in_14 rfl ?_
    refine gj_zret rfl (by first | rfl | exact gnZ _ | assumption) dX11_in_15 ?_
    first | exact gR_t (by simp; omega) | exact gR_f (by simp; omega)
  · refine gj_iload_n (pc' := 6) dX11_in_5 rfl rfl ?_
    refine gj_iload_n (pc' := 7) dX11_in_6 rfl rfl ?_
    refine gj_icmp_gt (pc' := 10) (tgt := 14) dX11_in_7 (by decide) rfl (by omega) (fun c7 => ?_) (fun c7 => ?_)
    · refine gj_iconst (pc' := 15) dX11_in_14 rfl ?_
      refine gj_zret rfl (by first | rfl | exact gnZ _ | assumption) dX11_in_15 ?_
      first | exact gR_t (by simp; omega) | exact gR_f (by simp; omega)
    · refine gj_iconst (pc' := 11) dX11_in_10 rfl ?_
      refine gj_goto (pc' := 15) dX11_in_11 (by decide) ?_
      refine gj_zret rfl (by first | rfl | exact gnZ _ | assumption) dX11_in_15 ?_
      first | exact gR_t (by simp; omega) | exact gR_f (by simp; omega)
theorem m_hasBit {h : gH} {m b : Nat} (hm : m < 2147483648) (hb : b < 32) : gSp 1 yX11_hasBit cX11_hasBit 2 (some .boolean) [.int (zI (m : Int)), .int (zI (b : Int))] h (gR (.int (zI (bI (m.testBit b)))) h) := by
  have h01 := bI_01 (m.testBit b)
  refine gSp_of (by decide +kernel) (Nat.le_of_ble_eq_true rfl) ?_
  show gJ RX11 cX11_hasBit 2 (some .boolean) _ 0 [some (.int (zI (m : Int))), some (.int (zI (b : Int)))] [] _ _
  refine gj_iload_n (pc' := 1) dX11_hasBit_0 rfl rfl ?_
  refine gj_iload_n (pc' := 2) dX11_hasBit_1 rfl rfl ?_
  refine gj_ishr (pc' := 3) dX11_hasBit_2 rfl ?_
  refine gj_iconst (pc' := 4) dX11_hasBit_3 rfl ?_
  refine gj_iand (pc' := 5) dX11_hasBit_4 rfl ?_
  rw [bt_bit (by omega) hb]
  refine gj_iconst (pc' := 6) dX11_hasBit_5 rfl ?_
  refine gj_icmp_ne (pc' := 9) (tgt := 13) dX11_hasBit_6 (by decide) rfl (by omega) (fun c6 => ?_) (fun c6 => ?_)
  · refine gj_iconst (pc' := 14) dX11_hasBit_13 rfl ?_
    refine gj_zret rfl (by first | rfl | exact gnZ _ | assumption) dX11_hasBit_14 ?_
    first | exact ⟨by rw [show bI (m.testBit b) = 1 by omega], rfl⟩ | exact ⟨by rw [show bI (m.testBit b) = 0 by omega], rfl⟩
  · refine gj_iconst (pc' := 10) dX11_hasBit_9 rfl ?_
    refine gj_goto (pc' := 14) dX11_hasBit_10 (by decide) ?_
    refine gj_zret rfl (by first | rfl | exact gnZ _ | assumption) dX11_hasBit_14 ?_
    first | exact ⟨by rw [show bI (m.testBit b) = 1 by omega], rfl⟩ | exact ⟨by rw [show bI (m.testBit b) = 0 by omega], rfl⟩
theorem m_ones {h : gH} {m : Nat} (hm : m < 2147483648) : gSp 1 yX11_ones cX11_ones 3 (some .int) [.int (zI (m : Int))] h (gR (.int (zI (pcN m : Nat))) h) := by
  refine gSp_of (by decide +kernel) (Nat.le_of_ble_eq_true rfl) ?_
  show gJ RX11 cX11_ones 3 (some .int) _ 0 [some (.int (zI (m : Int))), none, none] [] _ _
  refine gj_iconst (pc' := 1) dX11_ones_0 rfl ?_
  refine gj_istore_n (pc' := 2) dX11_ones_1 rfl (by decide) ?_
  refine gj_iconst (pc' := 3) dX11_ones_2 rfl ?_
  refine gj_istore_n (pc' := 4) dX11_ones_3 rfl (by decide) ?_
  refine gJ_wk (gJ_for (L := fun b => [some (.int (zI (m : Int))), some (.int (zI (sN (fun k => (m.testBit k).toNat) b : Nat))), some (.int (zI (b : Int)))]) (8) (fun b hb_b ih_b => ?_) (0) (Nat.zero_le _)) ?_
  · refine gj_iload_n (pc' := 5) dX11_ones_4 rfl rfl ?_
    refine gj_bipush (pc' := 7) dX11_ones_5 rfl (by decide) ?_
    refine gj_icmp_ge (pc' := 10) (tgt := 24) dX11_ones_7 (by decide) rfl (by omega) (fun c7 => ?_) (fun c7 => ?_)
    · refine gj_iload_n (pc' := 25) dX11_ones_24 rfl rfl ?_
      refine gj_iret rfl dX11_ones_25 ?_
      exact gR_i (by rw [show b = 8 by omega]; rfl)
    · refine gj_iload_n (pc' := 11) dX11_ones_10 rfl rfl ?_
      refine gj_iload_n (pc' := 12) dX11_ones_11 rfl rfl ?_
      refine gj_iload_n (pc' := 13) dX11_ones_12 rfl rfl ?_
      refine gj_ishr (pc' := 14) dX11_ones_13 rfl ?_
      refine gj_iconst (pc' := 15) dX11_ones_14 rfl ?_
      refine gj_iand (pc' := 16) dX11_ones_15 rfl ?_
      rw [bt_bit (by omega) (by omega)]
      refine gj_iadd (pc' := 17) dX11_ones_16 rfl ?_
      refine gj_istore_n (pc' := 18) dX11_ones_17 rfl (by decide) ?_
      refine gj_iinc (pc' := 21) dX11_ones_18 rfl rfl (by decide) ?_
      refine gj_goto (pc' := 4) dX11_ones_21 (by decide) ?_
      refine gJ_wk (ih_b (by omega)) ?_
      repeat' (first | exact True.intro | with_reducible exact rfl | refine And.intro ?_ ?_ | refine vI ?_ | refine vL ?_)
      all_goals first | omega | (rw [← bI_nat]; exact Int.natCast_add _ _)
  · repeat' (first | exact True.intro | with_reducible exact rfl | refine And.intro ?_ ?_ | refine vI ?_ | refine vL ?_)
    all_goals first | rfl | omega
theorem m_off {h : gH} {a b : Nat} (ha : a < 1000000) (hb : b < 1000000) : gSp 1 yX11_off cX11_off 2 (some .int) [.int (zI (a : Int)), .int (zI (b : Int))] h (gR (.int (zI (nD a b : Nat))) h) := by
  refine gSp_of (by decide +kernel) (Nat.le_of_ble_eq_true rfl) ?_
  show gJ RX11 cX11_off 2 (some .int) _ 0 [some (.int (zI (a : Int))), some (.int (zI (b : Int)))] [] _ _
  refine gj_iload_n (pc' := 1) dX11_off_0 rfl rfl ?_
  refine gj_iload_n (pc' := 2) dX11_off_1 rfl rfl ?_
  refine gj_icmp_le (pc' := 5) (tgt := 11) dX11_off_2 (by decide) rfl (by omega) (fun c2 => ?_) (fun c2 => ?_)
  · refine gj_iload_n (pc' := 12) dX11_off_11 rfl rfl ?_
    refine gj_iload_n (pc' := 13) dX11_off_12 rfl rfl ?_
    refine gj_isub (pc' := 14) dX11_off_13 rfl ?_
    refine gj_iret rfl dX11_off_14 ?_
    exact gR_i (by unfold nD; split <;> omega)
  · refine gj_iload_n (pc' := 6) dX11_off_5 rfl rfl ?_
    refine gj_iload_n (pc' := 7) dX11_off_6 rfl rfl ?_
    refine gj_isub (pc' := 8) dX11_off_7 rfl ?_
    refine gj_goto (pc' := 14) dX11_off_8 (by decide) ?_
    refine gj_iret rfl dX11_off_14 ?_
    exact gR_i (by unfold nD; split <;> omega)
theorem m_power {h : gH} {v n : Nat} (hn : n ≤ 8) : gSp 1 yX11_power cX11_power 6 (some .long) [.long (zL (v : Int)), .int (zI (n : Int))] h (gR (.long (zL ((v ^ n : Nat) : Int))) h) := by
  refine gSp_of (by decide +kernel) (Nat.le_of_ble_eq_true rfl) ?_
  show gJ RX11 cX11_power 6 (some .long) _ 0 [some (.long (zL (v : Int))), none, some (.int (zI (n : Int))), none, none, none] [] _ _
  refine gj_lconst (pc' := 1) dX11_power_0 rfl ?_
  show gJ _ _ _ _ _ _ _ (.long (zL 1) :: _) _ _
  refine gj_lstore_n (pc' := 2) dX11_power_1 rfl (by decide) ?_
  refine gj_iconst (pc' := 3) dX11_power_2 rfl ?_
  refine gj_istore (pc' := 5) dX11_power_3 rfl (by decide) ?_
  refine gJ_wk (gJ_for (L := fun b => [some (.long (zL (v : Int))), none, some (.int (zI (n : Int))), some (.long (zL ((v ^ b : Nat) : Int))), none, some (.int (zI (b : Int)))]) (n) (fun b hb_b ih_b => ?_) (0) (Nat.zero_le _)) ?_
  · refine gj_iload (pc' := 7) dX11_power_5 rfl rfl ?_
    refine gj_iload_n (pc' := 8) dX11_power_7 rfl rfl ?_
    refine gj_icmp_ge (pc' := 11) (tgt := 21) dX11_power_8 (by decide) rfl (by omega) (fun c8 => ?_) (fun c8 => ?_)
    · refine gj_lload_n (pc' := 22) dX11_power_21 rfl rfl ?_
      refine gj_lret rfl dX11_power_22 ?_
      exact gR_l (by rw [show b = n by omega])
    · refine gj_lload_n (pc' := 12) dX11_power_11 rfl rfl ?_
      refine gj_lload_n (pc' := 13) dX11_power_12 rfl rfl ?_
      refine gj_lmul (pc' := 14) dX11_power_13 rfl ?_
      refine gj_lstore_n (pc' := 15) dX11_power_14 rfl (by decide) ?_
      refine gj_iinc (pc' := 18) dX11_power_15 rfl rfl (by decide) ?_
      refine gj_goto (pc' := 5) dX11_power_18 (by decide) ?_
      refine gJ_wk (ih_b (by omega)) ?_
      repeat' (first | exact True.intro | with_reducible exact rfl | refine And.intro ?_ ?_ | refine vI ?_ | refine vL ?_)
      all_goals first | omega | (rw [Nat.pow_succ]; exact Int.natCast_mul _ _)
  · repeat' (first | exact True.intro | with_reducible exact rfl | refine And.intro ?_ ?_ | refine vI ?_ | refine vL ?_)
    all_goals first | rfl | omega
theorem m_lowest {h : gH} {u w : Nat} {l : Bool} (hu : u ≤ 90000000000000000) (hw : w ≤ 90000000000000000) (hw1 : 1 ≤ w) : gSp 1 yX11_lowest cX11_lowest 11 (some .long) [.long (zL (u : Int)), .long (zL (w : Int)), .int (zI (bI l))] h (gR (.long (zL ((sTerm u w l : Nat) : Int))) h) := by
  have hg1 : 1 ≤ Nat.gcd u w := Nat.gcd_pos_of_pos_right u (by omega)
  have hg2 : Nat.gcd u w ≤ w := Nat.gcd_le_right u (by omega)
  have loop : ∀ (k x y : Nat), y < k → x ≤ 90000000000000000 → y ≤ 90000000000000000 → Nat.gcd x y = Nat.gcd u w → gJ RX11 cX11_lowest 11 (some .long) 1 6 [some (.long (zL (u : Int))), none, some (.long (zL (w : Int))), none, some (.int (zI (bI l))), some (.long (zL (x : Int))), none, some (.long (zL (y : Int))), none, none, none] [] h (gR (.long (zL ((sTerm u w l : Nat) : Int))) h) := by
    intro k
    induction k with
    | zero => intro x y q; omega
    | succ k ih =>
      intro x y q1 q2 q3 q4
      refine gj_lload (pc' := 8) dX11_lowest_6 rfl rfl ?_
      refine gj_lconst (pc' := 9) dX11_lowest_8 rfl ?_
      show gJ _ _ _ _ _ _ _ (.long (zL 0) :: _) _ _
      refine gj_lcmp (pc' := 10) dX11_lowest_9 rfl (by omega) (by omega) ?_
      rw [lc0 (by omega)]
      first | refine gj_ifB_eq (pc' := 13) (tgt := 31) dX11_lowest_10 (by decide) rfl (fun c10 => ?_) (fun c10 => ?_) | refine gj_if_eq (pc' := 13) (tgt := 31) dX11_lowest_10 (by decide) rfl (by omega) (fun c10 => ?_) (fun c10 => ?_)
      · refine gj_iload (pc' := 33) dX11_lowest_31 rfl rfl ?_
        first | refine gj_ifB_eq (pc' := 36) (tgt := 40) dX11_lowest_33 (by decide) rfl (fun c33 => ?_) (fun c33 => ?_) | refine gj_if_eq (pc' := 36) (tgt := 40) dX11_lowest_33 (by decide) rfl (by omega) (fun c33 => ?_) (fun c33 => ?_)
        · refine gj_lload_n (pc' := 41) dX11_lowest_40 rfl rfl ?_
          refine gj_lload (pc' := 43) dX11_lowest_41 rfl rfl ?_
          have hy0 : y = 0 := by have := of_decide_eq_false c10; omega
          have hx : x = Nat.gcd u w := by rw [← q4, hy0, Nat.gcd_zero_right]
          rw [hx]
          refine gj_ldiv (pc' := 44) dX11_lowest_43 rfl (by omega) (by omega) ?_
          refine gj_lret rfl dX11_lowest_44 ?_
          exact gR_l (by unfold sTerm; rw [c33]; exact (Int.natCast_ediv _ _).symm)
        · refine gj_lload_n (pc' := 37) dX11_lowest_36 rfl rfl ?_
          refine gj_goto (pc' := 41) dX11_lowest_37 (by decide) ?_
          refine gj_lload (pc' := 43) dX11_lowest_41 rfl rfl ?_
          have hy0 : y = 0 := by have := of_decide_eq_false c10; omega
          have hx : x = Nat.gcd u w := by rw [← q4, hy0, Nat.gcd_zero_right]
          rw [hx]
          refine gj_ldiv (pc' := 44) dX11_lowest_43 rfl (by omega) (by omega) ?_
          refine gj_lret rfl dX11_lowest_44 ?_
          exact gR_l (by unfold sTerm; rw [c33]; exact (Int.natCast_ediv _ _).symm)
      · refine gj_lload (pc' := 15) dX11_lowest_13 rfl rfl ?_
        refine gj_lload (pc' := 17) dX11_lowest_15 rfl rfl ?_
        refine gj_lrem (pc' := 18) dX11_lowest_17 rfl (by have := of_decide_eq_true c10; omega) (by have := of_decide_eq_true c10; omega) ?_
        refine gj_lstore (pc' := 20) dX11_lowest_18 rfl (by decide) ?_
        refine gj_lload (pc' := 22) dX11_lowest_20 rfl rfl ?_
        refine gj_lstore (pc' := 24) dX11_lowest_22 rfl (by decide) ?_
        refine gj_lload (pc' := 26) dX11_lowest_24 rfl rfl ?_
        refine gj_lstore (pc' := 28) dX11_lowest_26 rfl (by decide) ?_
        refine gj_goto (pc' := 6) dX11_lowest_28 (by decide) ?_
        have hy0 : y ≠ 0 := by have := of_decide_eq_true c10; omega
        have hm : x % y < y := Nat.mod_lt _ (by omega)
        refine gJ_wk (ih y (x % y) (by omega) q3 (by omega) (by rw [← q4]; conv => rhs; rw [Nat.gcd_comm, Nat.gcd_rec, Nat.gcd_comm])) ?_
        repeat' (first | exact True.intro | with_reducible exact rfl | refine And.intro ?_ ?_ | refine vI ?_ | refine vL ?_)
        all_goals exact Int.natCast_emod x y
  refine gSp_of (by decide +kernel) (Nat.le_of_ble_eq_true rfl) ?_
  show gJ RX11 cX11_lowest 11 (some .long) _ 0 [some (.long (zL (u : Int))), none, some (.long (zL (w : Int))), none, some (.int (zI (bI l))), none, none, none, none, none, none] [] _ _
  refine gj_lload_n (pc' := 1) dX11_lowest_0 rfl rfl ?_
  refine gj_lstore (pc' := 3) dX11_lowest_1 rfl (by decide) ?_
  refine gj_lload_n (pc' := 4) dX11_lowest_3 rfl rfl ?_
  refine gj_lstore (pc' := 6) dX11_lowest_4 rfl (by decide) ?_
  exact loop (u + 1) w u (by omega) hw hu (Nat.gcd_comm _ _)
theorem m_isHouse {h : gH} {T S : Nat → Nat} {ht : Bool} {v : Int} (hM : MA h T S) (hh : h.1 142 14 = bI ht) (h3 : T 3 ≤ 6) (hv : -2147483648 ≤ v ∧ v ≤ 2147483647) : gSp 2 yX11_isHouse cX11_isHouse 2 (some .boolean) [.ref 142, .int (zI v)] h (gR (.int (zI (bI (ht && decide (0 ≤ v ∧ v < (T 3 : Int)))))) h) := by
  refine gSp_of (by decide +kernel) (Nat.le_of_ble_eq_true rfl) ?_
  show gJ RX11 cX11_isHouse 2 (some .boolean) _ 0 [some (.ref 142), some (.int (zI v))] [] _ _
  refine gj_aload_n (pc' := 1) dX11_isHouse_0 rfl rfl ?_
  refine gf_X11_166 (pc' := 4) dX11_isHouse_1 rfl (by first | rfl | assumption) rfl ?_
  rw [hh]
  first | refine gj_ifB_eq (pc' := 7) (tgt := 27) dX11_isHouse_4 (by decide) rfl (fun c4 => ?_) (fun c4 => ?_) | refine gj_if_eq (pc' := 7) (tgt := 27) dX11_isHouse_4 (by decide) rfl (by omega) (fun c4 => ?_) (fun c4 => ?_)
  · refine gj_iconst (pc' := 28) dX11_isHouse_27 rfl ?_
    refine gj_zret rfl (by first | rfl | exact gnZ _ | assumption) dX11_isHouse_28 ?_
    first | exact gR_t (by rw [c4]; simp; have := of_decide_eq_true c20; omega) | exact gR_f (by rw [c4]; simp; have := of_decide_eq_false c20; omega) | exact gR_f (by rw [c4]; rfl)
  · refine gj_iload_n (pc' := 8) dX11_isHouse_7 rfl rfl ?_
    refine gj_iconst (pc' := 9) dX11_isHouse_8 rfl ?_
    refine gj_aload_n (pc' := 10) dX11_isHouse_9 rfl rfl ?_
    refine gf_X11_20 (pc' := 13) dX11_isHouse_10 rfl (by first | rfl | assumption) rfl ?_
    refine gj_iconst (pc' := 14) dX11_isHouse_13 rfl ?_
    refine gj_iald (pc' := 15) (j := 3) (by first | rfl | assumption) (by omega) (by omega) (by decide) dX11_isHouse_14 rfl ?_
    rw [hM.1 3 (by omega)]
    refine gj_iconst (pc' := 16) dX11_isHouse_15 rfl ?_
    refine gj_isub (pc' := 17) dX11_isHouse_16 rfl ?_
    refine gr_X11_138 (pc' := 20) dX11_isHouse_17 rfl (m_in hv (by omega) (by omega)) rfl (by decide) rfl (Nat.le_of_ble_eq_true rfl) ?_
    first | refine gj_ifB_eq (pc' := 23) (tgt := 27) dX11_isHouse_20 (by decide) rfl (fun c20 => ?_) (fun c20 => ?_) | refine gj_if_eq (pc' := 23) (tgt := 27) dX11_isHouse_20 (by decide) rfl (by omega) (fun c20 => ?_) (fun c20 => ?_)
    · refine gj_iconst (pc' := 28) dX11_isHouse_27 rfl ?_
      refine gj_zret rfl (by first | rfl | exact gnZ _ | assumption) dX11_isHouse_28 ?_
      first | exact gR_t (by rw [c4]; simp; have := of_decide_eq_true c20; omega) | exact gR_f (by rw [c4]; simp; have := of_decide_eq_false c20; omega) | exact gR_f (by rw [c4]; rfl)
    · refine gj_iconst (pc' := 24) dX11_isHouse_23 rfl ?_
      refine gj_goto (pc' := 28) dX11_isHouse_24 (by decide) ?_
      refine gj_zret rfl (by first | rfl | exact gnZ _ | assumption) dX11_isHouse_28 ?_
      first | exact gR_t (by rw [c4]; simp; have := of_decide_eq_true c20; omega) | exact gR_f (by rw [c4]; simp; have := of_decide_eq_false c20; omega) | exact gR_f (by rw [c4]; rfl)
theorem m_isBird {h : gH} {T S : Nat → Nat} {ht : Bool} {v : Int} (hM : MA h T S) (hh : h.1 142 14 = bI ht) (h4 : T 4 ≤ 7) (hv : -2147483648 ≤ v ∧ v ≤ 2147483647) : gSp 2 yX11_isBird cX11_isBird 2 (some .boolean) [.ref 142, .int (zI v)] h (gR (.int (zI (bI (ht && decide (0 ≤ v ∧ v < (T 4 : Int)))))) h) := by
  refine gSp_of (by decide +kernel) (Nat.le_of_ble_eq_true rfl) ?_
  show gJ RX11 cX11_isBird 2 (some .boolean) _ 0 [some (.ref 142), some (.int (zI v))] [] _ _
  refine gj_aload_n (pc' := 1) dX11_isBird_0 rfl rfl ?_
  refine gf_X11_166 (pc' := 4) dX11_isBird_1 rfl (by first | rfl | assumption) rfl ?_
  rw [hh]
  first | refine gj_ifB_eq (pc' := 7) (tgt := 27) dX11_isBird_4 (by decide) rfl (fun c4 => ?_) (fun c4 => ?_) | refine gj_if_eq (pc' := 7) (tgt := 27) dX11_isBird_4 (by decide) rfl (by omega) (fun c4 => ?_) (fun c4 => ?_)
  · refine gj_iconst (pc' := 28) dX11_isBird_27 rfl ?_
    refine gj_zret rfl (by first | rfl | exact gnZ _ | assumption) dX11_isBird_28 ?_
    first | exact gR_t (by rw [c4]; simp; have := of_decide_eq_true c20; omega) | exact gR_f (by rw [c4]; simp; have := of_decide_eq_false c20; omega) | exact gR_f (by rw [c4]; rfl)
  · refine gj_iload_n (pc' := 8) dX11_isBird_7 rfl rfl ?_
    refine gj_iconst (pc' := 9) dX11_isBird_8 rfl ?_
    refine gj_aload_n (pc' := 10) dX11_isBird_9 rfl rfl ?_
    refine gf_X11_20 (pc' := 13) dX11_isBird_10 rfl (by first | rfl | assumption) rfl ?_
    refine gj_iconst (pc' := 14) dX11_isBird_13 rfl ?_
    refine gj_iald (pc' := 15) (j := 4) (by first | rfl | assumption) (by omega) (by omega) (by decide) dX11_isBird_14 rfl ?_
    rw [hM.1 4 (by omega)]
    refine gj_iconst (pc' := 16) dX11_isBird_15 rfl ?_
    refine gj_isub (pc' := 17) dX11_isBird_16 rfl ?_
    refine gr_X11_138 (pc' := 20) dX11_isBird_17 rfl (m_in hv (by omega) (by omega)) rfl (by decide) rfl (Nat.le_of_ble_eq_true rfl) ?_
    first | refine gj_ifB_eq (pc' := 23) (tgt := 27) dX11_isBird_20 (by decide) rfl (fun c20 => ?_) (fun c20 => ?_) | refine gj_if_eq (pc' := 23) (tgt := 27) dX11_isBird_20 (by decide) rfl (by omega) (fun c20 => ?_) (fun c20 => ?_)
    · refine gj_iconst (pc' := 28) dX11_isBird_27 rfl ?_
      refine gj_zret rfl (by first | rfl | exact gnZ _ | assumption) dX11_isBird_28 ?_
      first | exact gR_t (by rw [c4]; simp; have := of_decide_eq_true c20; omega) | exact gR_f (by rw [c4]; simp; have := of_decide_eq_false c20; omega) | exact gR_f (by rw [c4]; rfl)
    · refine gj_iconst (pc' := 24) dX11_isBird_23 rfl ?_
      refine gj_goto (pc' := 28) dX11_isBird_24 (by decide) ?_
      refine gj_zret rfl (by first | rfl | exact gnZ _ | assumption) dX11_isBird_28 ?_
      first | exact gR_t (by rw [c4]; simp; have := of_decide_eq_true c20; omega) | exact gR_f (by rw [c4]; simp; have := of_decide_eq_false c20; omega) | exact gR_f (by rw [c4]; rfl)
theorem m_kindOf {h : gH} {T S : Nat → Nat} {b : Nat} (hM : MA h T S) (hb : b < 7) : gSp 1 yX11_kindOf cX11_kindOf 2 (some .int) [.ref 142, .int (zI (b : Int))] h (gR (.int (zI (T (19 + 5 * b) : Nat))) h) := by
  refine gSp_of (by decide +kernel) (Nat.le_of_ble_eq_true rfl) ?_
  show gJ RX11 cX11_kindOf 2 (some .int) _ 0 [some (.ref 142), some (.int (zI (b : Int)))] [] _ _
  refine gj_aload_n (pc' := 1) dX11_kindOf_0 rfl rfl ?_
  refine gf_X11_20 (pc' := 4) dX11_kindOf_1 rfl (by first | rfl | assumption) rfl ?_
  refine gj_bipush (pc' := 6) dX11_kindOf_4 rfl (by decide) ?_
  refine gj_iconst (pc' := 7) dX11_kindOf_6 rfl ?_
  refine gj_iload_n (pc' := 8) dX11_kindOf_7 rfl rfl ?_
  refine gj_imul (pc' := 9) dX11_kindOf_8 rfl ?_
  refine gj_iadd (pc' := 10) dX11_kindOf_9 rfl ?_
  refine gj_iald (pc' := 11) (j := 19 + 5 * b) (by first | rfl | assumption) (by omega) (by omega) (by decide) dX11_kindOf_10 rfl ?_
  rw [hM.1 _ (by omega)]
  refine gj_iret rfl dX11_kindOf_11 ?_
  exact gR_i rfl
theorem m_fromOf {h : gH} {T S : Nat → Nat} {b : Nat} (hM : MA h T S) (hb : b < 7) : gSp 1 yX11_fromOf cX11_fromOf 2 (some .int) [.ref 142, .int (zI (b : Int))] h (gR (.int (zI (T (20 + 5 * b) : Nat))) h) := by
  refine gSp_of (by decide +kernel) (Nat.le_of_ble_eq_true rfl) ?_
  show gJ RX11 cX11_fromOf 2 (some .int) _ 0 [some (.ref 142), some (.int (zI (b : Int)))] [] _ _
  refine gj_aload_n (pc' := 1) dX11_fromOf_0 rfl rfl ?_
  refine gf_X11_20 (pc' := 4) dX11_fromOf_1 rfl (by first | rfl | assumption) rfl ?_
  refine gj_bipush (pc' := 6) dX11_fromOf_4 rfl (by decide) ?_
  refine gj_iconst (pc' := 7) dX11_fromOf_6 rfl ?_
  refine gj_iload_n (pc' := 8) dX11_fromOf_7 rfl rfl ?_
  refine gj_imul (pc' := 9) dX11_fromOf_8 rfl ?_
  refine gj_iadd (pc' := 10) dX11_fromOf_9 rfl ?_
  refine gj_iconst (pc' := 11) dX11_fromOf_10 rfl ?_
  refine gj_iadd (pc' := 12) dX11_fromOf_11 rfl ?_
  refine gj_iald (pc' := 13) (j := 20 + 5 * b) (by first | rfl | assumption) (by omega) (by omega) (by decide) dX11_fromOf_12 rfl ?_
  rw [hM.1 _ (by omega)]
  refine gj_iret rfl dX11_fromOf_13 ?_
  exact gR_i rfl
theorem m_forOf {h : gH} {T S : Nat → Nat} {b : Nat} (hM : MA h T S) (hb : b < 7) : gSp 1 yX11_forOf cX11_forOf 2 (some .int) [.ref 142, .int (zI (b : Int))] h (gR (.int (zI (T (21 + 5 * b) : Nat))) h) := by
  refine gSp_of (by decide +kernel) (Nat.le_of_ble_eq_true rfl) ?_
  show gJ RX11 cX11_forOf 2 (some .int) _ 0 [some (.ref 142), some (.int (zI (b : Int)))] [] _ _
  refine gj_aload_n (pc' := 1) dX11_forOf_0 rfl rfl ?_
  refine gf_X11_20 (pc' := 4) dX11_forOf_1 rfl (by first | rfl | assumption) rfl ?_
  refine gj_bipush (pc' := 6) dX11_forOf_4 rfl (by decide) ?_
  refine gj_iconst (pc' := 7) dX11_forOf_6 rfl ?_
  refine gj_iload_n (pc' := 8) dX11_forOf_7 rfl rfl ?_
  refine gj_imul (pc' := 9) dX11_forOf_8 rfl ?_
  refine gj_iadd (pc' := 10) dX11_forOf_9 rfl ?_
  refine gj_iconst (pc' := 11) dX11_forOf_10 rfl ?_
  refine gj_iadd (pc' := 12) dX11_forOf_11 rfl ?_
  refine gj_iald (pc' := 13) (j := 21 + 5 * b) (by first | rfl | assumption) (by omega) (by omega) (by decide) dX11_forOf_12 rfl ?_
  rw [hM.1 _ (by omega)]
  refine gj_iret rfl dX11_forOf_13 ?_
  exact gR_i rfl
theorem m_placeOf {h : gH} {T S : Nat → Nat} {a : Nat} (hM : MA h T S) (ha : a < 6) : gSp 1 yX11_placeOf cX11_placeOf 2 (some .int) [.ref 142, .int (zI (a : Int))] h (gR (.int (zI (tPl T a : Nat))) h) := by
  refine gSp_of (by decide +kernel) (Nat.le_of_ble_eq_true rfl) ?_
  show gJ RX11 cX11_placeOf 2 (some .int) _ 0 [some (.ref 142), some (.int (zI (a : Int)))] [] _ _
  refine gj_aload_n (pc' := 1) dX11_placeOf_0 rfl rfl ?_
  refine gf_X11_20 (pc' := 4) dX11_placeOf_1 rfl (by first | rfl | assumption) rfl ?_
  refine gj_bipush (pc' := 6) dX11_placeOf_4 rfl (by decide) ?_
  refine gj_iconst (pc' := 7) dX11_placeOf_6 rfl ?_
  refine gj_iload_n (pc' := 8) dX11_placeOf_7 rfl rfl ?_
  refine gj_imul (pc' := 9) dX11_placeOf_8 rfl ?_
  refine gj_iadd (pc' := 10) dX11_placeOf_9 rfl ?_
  refine gj_iald (pc' := 11) (j := 7 + 2 * a) (by first | rfl | assumption) (by omega) (by omega) (by decide) dX11_placeOf_10 rfl ?_
  rw [hM.1 _ (by omega)]
  refine gj_iret rfl dX11_placeOf_11 ?_
  exact gR_i rfl
theorem m_daysApart {h : gH} {T S : Nat → Nat} {a b : Nat} (hM : MI h T S) (ha : a < T 3) (hb : b < T 3) : gSp 2 yX11_daysApart cX11_daysApart 3 (some .int) [.ref 142, .int (zI (a : Int)), .int (zI (b : Int))] h (gR (.int (zI (tAp T a b : Nat))) h) := by
  obtain ⟨hA, hT, hS⟩ := id hM
  have h0 := hT.1
  have h3 := hT.2.2.2.1
  have h8 := hT.2.2.2.2.2.2.2.1
  have d0 : tPl T a ≤ 99 := (h8 a ha).1
  have d2 : tPl T b ≤ 99 := (h8 b hb).1
  have d1 : nD (tPl T a) (tPl T b) ≤ 99 := nD_le d0 d2
  refine gSp_of (by decide +kernel) (Nat.le_of_ble_eq_true rfl) ?_
  show gJ RX11 cX11_daysApart 3 (some .int) _ 0 [some (.ref 142), some (.int (zI (a : Int))), some (.int (zI (b : Int)))] [] _ _
  refine gj_aload_n (pc' := 1) dX11_daysApart_0 rfl rfl ?_
  refine gj_iload_n (pc' := 2) dX11_daysApart_1 rfl rfl ?_
  refine gr_X11_231 (pc' := 5) dX11_daysApart_2 rfl (m_placeOf hA (by omega)) rfl (by first | rfl | assumption) (by decide) rfl (Nat.le_of_ble_eq_true rfl) ?_
  refine gj_aload_n (pc' := 6) dX11_daysApart_5 rfl rfl ?_
  refine gj_iload_n (pc' := 7) dX11_daysApart_6 rfl rfl ?_
  refine gr_X11_231 (pc' := 10) dX11_daysApart_7 rfl (m_placeOf hA (by omega)) rfl (by first | rfl | assumption) (by decide) rfl (Nat.le_of_ble_eq_true rfl) ?_
  refine gr_X11_234 (pc' := 13) dX11_daysApart_10 rfl (m_off (by omega) (by omega)) rfl (by decide) rfl (Nat.le_of_ble_eq_true rfl) ?_
  refine gj_aload_n (pc' := 14) dX11_daysApart_13 rfl rfl ?_
  refine gf_X11_20 (pc' := 17) dX11_daysApart_14 rfl (by first | rfl | assumption) rfl ?_
  refine gj_iconst (pc' := 18) dX11_daysApart_17 rfl ?_
  refine gj_iald (pc' := 19) (j := 0) (by first | rfl | assumption) (by omega) (by omega) (by decide) dX11_daysApart_18 rfl ?_
  rw [hA.1 0 (by omega)]
  refine gj_iadd (pc' := 20) dX11_daysApart_19 rfl ?_
  refine gj_iconst (pc' := 21) dX11_daysApart_20 rfl ?_
  refine gj_isub (pc' := 22) dX11_daysApart_21 rfl ?_
  refine gj_aload_n (pc' := 23) dX11_daysApart_22 rfl rfl ?_
  refine gf_X11_20 (pc' := 26) dX11_daysApart_23 rfl (by first | rfl | assumption) rfl ?_
  refine gj_iconst (pc' := 27) dX11_daysApart_26 rfl ?_
  refine gj_iald (pc' := 28) (j := 0) (by first | rfl | assumption) (by omega) (by omega) (by decide) dX11_daysApart_27 rfl ?_
  rw [hA.1 0 (by omega)]
  refine gj_idiv (pc' := 29) dX11_daysApart_28 rfl (by omega) (by omega) ?_
  refine gj_iret rfl dX11_daysApart_29 ?_
  exact gR_i (by unfold tAp; rw [Int.natCast_ediv]; congr 1; omega)
theorem tNear_ne {T : Nat → Nat} {a : Nat} : ∀ n, (∃ k, k < n ∧ k ≠ a) → fN (fun k n => if k ≠ a ∧ (n = a ∨ nD (tPl T k) (tPl T a) < nD (tPl T n) (tPl T a)) then k else n) a n ≠ a
  | 0, ⟨k, h, _⟩ => absurd h (by omega)
  | n + 1, ⟨k, h, hk⟩ => by
    show (if n ≠ a ∧ (fN (fun k n => if k ≠ a ∧ (n = a ∨ nD (tPl T k) (tPl T a) < nD (tPl T n) (tPl T a)) then k else n) a n = a ∨ nD (tPl T n) (tPl T a) < nD (tPl T (fN (fun k n => if k ≠ a ∧ (n = a ∨ nD (tPl T k) (tPl T a) < nD (tPl T n) (tPl T a)) then k else n) a n)) (tPl T a)) then n else fN (fun k n => if k ≠ a ∧ (n = a ∨ nD (tPl T k) (tPl T a) < nD (tPl T n) (tPl T a)) then k else n) a n) ≠ a
    split
    · rename_i q; exact q.1
    · rename_i q
      by_cases hn : k < n
      · exact tNear_ne n ⟨k, hn, hk⟩
      · intro z
        exact q ⟨by omega, Or.inl z⟩
theorem m_sillOf {h : gH} {T S : Nat → Nat} {b : Nat} (hM : MI h T S) (hb : b < T 4) : gSp 2 yX11_sillOf cX11_sillOf 5 (some .int) [.ref 142, .int (zI (b : Int))] h (gR (.int (zI (tSill T b : Nat))) h) := by
  obtain ⟨hA, hT, hS⟩ := id hM
  have h3 := hT.2.2.2.1
  have h4 : T 4 ≤ 7 := hT.2.2.2.2.1
  have h8 := hT.2.2.2.2.2.2.2.1
  have h9 := hT.2.2.2.2.2.2.2.2.1 b hb
  have hse : tSill T b = if T (19 + 5 * b) = 3 then tNear T (T (21 + 5 * b)) else T (21 + 5 * b) := rfl
  have hne : tNear T (T (21 + 5 * b)) ≠ T (21 + 5 * b) := tNear_ne (T 3) (by
    by_cases q : T (21 + 5 * b) = 0
    · exact ⟨1, by omega, by omega⟩
    · exact ⟨0, by omega, by omega⟩)
  have hna : tNear T (T (21 + 5 * b)) = fN (fun k n => if k ≠ T (21 + 5 * b) ∧ (n = T (21 + 5 * b) ∨ nD (tPl T k) (tPl T (T (21 + 5 * b))) < nD (tPl T n) (tPl T (T (21 + 5 * b)))) then k else n) (T (21 + 5 * b)) (T 3) := rfl
  generalize tNear T (T (21 + 5 * b)) = w at hse hne hna
  have ha := h9.2.2.1
  generalize tSill T b = v at hse ⊢
  refine gSp_of (by decide +kernel) (Nat.le_of_ble_eq_true rfl) ?_
  show gJ RX11 cX11_sillOf 5 (some .int) _ 0 [some (.ref 142), some (.int (zI (b : Int))), none, none, none] [] _ _
  refine gj_aload_n (pc' := 1) dX11_sillOf_0 rfl rfl ?_
  refine gj_iload_n (pc' := 2) dX11_sillOf_1 rfl rfl ?_
  refine gr_X11_237 (pc' := 5) dX11_sillOf_2 rfl (m_forOf hA (by omega)) rfl (by first | rfl | assumption) (by decide) rfl (Nat.le_of_ble_eq_true rfl) ?_
  refine gj_istore_n (pc' := 6) dX11_sillOf_5 rfl (by decide) ?_
  generalize T (21 + 5 * b) = a at ha hse hne hna ⊢
  refine gj_aload_n (pc' := 7) dX11_sillOf_6 rfl rfl ?_
  refine gj_iload_n (pc' := 8) dX11_sillOf_7 rfl rfl ?_
  refine gr_X11_240 (pc' := 11) dX11_sillOf_8 rfl (m_kindOf hA (by omega)) rfl (by first | rfl | assumption) (by decide) rfl (Nat.le_of_ble_eq_true rfl) ?_
  refine gj_iconst (pc' := 12) dX11_sillOf_11 rfl ?_
  refine gj_icmp_eq (pc' := 15) (tgt := 17) dX11_sillOf_12 (by decide) rfl (by omega) (fun c12 => ?_) (fun c12 => ?_)
  · refine gj_bipush (pc' := 19) dX11_sillOf_17 rfl (by decide) ?_
    refine gj_istore_n (pc' := 20) dX11_sillOf_19 rfl (by decide) ?_
    refine gj_iconst (pc' := 21) dX11_sillOf_20 rfl ?_
    refine gj_istore (pc' := 23) dX11_sillOf_21 rfl (by decide) ?_
    refine gJ_wk (gJ_fI1 (L := fun k x => [some (.ref 142), some (.int (zI (b : Int))), some (.int (zI (a : Int))), some (.int (zI x)), some (.int (zI (k : Int)))]) (I := fun k x => x = (if fN (fun k n => if k ≠ a ∧ (n = a ∨ nD (tPl T k) (tPl T a) < nD (tPl T n) (tPl T a)) then k else n) a k = a then -2 else ((fN (fun k n => if k ≠ a ∧ (n = a ∨ nD (tPl T k) (tPl T a) < nD (tPl T n) (tPl T a)) then k else n) a k : Nat) : Int))) (T 3) (fun k x hb_k iv_k ih_k => ?step_1) (0) (Nat.zero_le _) ?x0_1 ?iv0_1) ?ll0_1
    case ll0_1 =>
      repeat' (first | exact True.intro | with_reducible exact rfl | refine And.intro ?_ ?_ | refine vI ?_ | refine vL ?_)
      all_goals first | rfl | omega
    case iv0_1 =>
      exact (if_pos rfl).symm
    have hn : fN (fun k n => if k ≠ a ∧ (n = a ∨ nD (tPl T k) (tPl T a) < nD (tPl T n) (tPl T a)) then k else n) a k < T 3 := fN_inv (fun x => x < T 3) ha _ (fun k x hk hx => by
      show (if _ then k else x) < T 3
      split <;> omega)
    have es : fN (fun k n => if k ≠ a ∧ (n = a ∨ nD (tPl T k) (tPl T a) < nD (tPl T n) (tPl T a)) then k else n) a (k + 1) = (if k ≠ a ∧ (fN (fun k n => if k ≠ a ∧ (n = a ∨ nD (tPl T k) (tPl T a) < nD (tPl T n) (tPl T a)) then k else n) a k = a ∨ nD (tPl T k) (tPl T a) < nD (tPl T (fN (fun k n => if k ≠ a ∧ (n = a ∨ nD (tPl T k) (tPl T a) < nD (tPl T n) (tPl T a)) then k else n) a k)) (tPl T a)) then k else fN (fun k n => if k ≠ a ∧ (n = a ∨ nD (tPl T k) (tPl T a) < nD (tPl T n) (tPl T a)) then k else n) a k) := rfl
    have ew : T 3 = k → w = fN (fun k n => if k ≠ a ∧ (n = a ∨ nD (tPl T k) (tPl T a) < nD (tPl T n) (tPl T a)) then k else n) a k := fun q => by rw [hna, q]
    generalize fN (fun k n => if k ≠ a ∧ (n = a ∨ nD (tPl T k) (tPl T a) < nD (tPl T n) (tPl T a)) then k else n) a k = y at hn es ew iv_k
    have hx : (y = a ∧ x = -2) ∨ (y ≠ a ∧ x = (y : Int)) := by split at iv_k <;> omega
    have p1 : tPl T a ≤ 99 := (h8 a ha).1
    have p2 : tPl T y ≤ 99 := (h8 y hn).1
    have p3 : k < T 3 → tPl T k ≤ 99 := fun q => (h8 k q).1
    have p4 := nD_le p1 p2
    have p5 := nD_le p2 p1
    refine gj_iload (pc' := 25) dX11_sillOf_23 rfl rfl ?_
    refine gj_aload_n (pc' := 26) dX11_sillOf_25 rfl rfl ?_
    refine gf_X11_20 (pc' := 29) dX11_sillOf_26 rfl (by first | rfl | assumption) rfl ?_
    refine gj_iconst (pc' := 30) dX11_sillOf_29 rfl ?_
    refine gj_iald (pc' := 31) (j := 3) (by first | rfl | assumption) (by omega) (by omega) (by decide) dX11_sillOf_30 rfl ?_
    rw [hA.1 3 (by omega)]
    refine gj_icmp_ge (pc' := 34) (tgt := 83) dX11_sillOf_31 (by decide) rfl (by omega) (fun c31 => ?_) (fun c31 => ?_)
    · refine gj_iload_n (pc' := 84) dX11_sillOf_83 rfl rfl ?_
      refine gj_iret rfl dX11_sillOf_84 ?_
      exact gR_i (by rw [hse, if_pos (by omega)]; have := ew (by omega); omega)
    · refine gj_iload (pc' := 36) dX11_sillOf_34 rfl rfl ?_
      refine gj_iload_n (pc' := 37) dX11_sillOf_36 rfl rfl ?_
      refine gj_icmp_eq (pc' := 40) (tgt := 77) dX11_sillOf_37 (by decide) rfl (by omega) (fun c37 => ?_) (fun c37 => ?_)
      · refine gj_iinc (pc' := 80) dX11_sillOf_77 rfl rfl (by decide) ?_
        refine gj_goto (pc' := 23) dX11_sillOf_80 (by decide) ?_
        refine gJ_wk (ih_k ?x_2 (by omega) ?iv_2) ?ll_2
        case ll_2 =>
          repeat' (first | exact True.intro | with_reducible exact rfl | refine And.intro ?_ ?_ | refine vI ?_ | refine vL ?_)
          all_goals omega
        rw [es]
        repeat' (first | omega | split)
      · refine gj_iload_n (pc' := 41) dX11_sillOf_40 rfl rfl ?_
        refine gj_if_lt (pc' := 44) (tgt := 74) dX11_sillOf_41 (by decide) rfl (by omega) (fun c41 => ?_) (fun c41 => ?_)
        · refine gj_iload (pc' := 76) dX11_sillOf_74 rfl rfl ?_
          refine gj_istore_n (pc' := 77) dX11_sillOf_76 rfl (by decide) ?_
          refine gj_iinc (pc' := 80) dX11_sillOf_77 rfl rfl (by decide) ?_
          refine gj_goto (pc' := 23) dX11_sillOf_80 (by decide) ?_
          refine gJ_wk (ih_k ?x_3 (by omega) ?iv_3) ?ll_3
          case ll_3 =>
            repeat' (first | exact True.intro | with_reducible exact rfl | refine And.intro ?_ ?_ | refine vI ?_ | refine vL ?_)
            all_goals omega
          rw [es]
          repeat' (first | omega | split)
        · refine gj_aload_n (pc' := 45) dX11_sillOf_44 rfl rfl ?_
          refine gj_iload (pc' := 47) dX11_sillOf_45 rfl rfl ?_
          refine gr_X11_231 (pc' := 50) dX11_sillOf_47 rfl (m_placeOf hA (by omega)) rfl (by first | rfl | assumption) (by decide) rfl (Nat.le_of_ble_eq_true rfl) ?_
          refine gj_aload_n (pc' := 51) dX11_sillOf_50 rfl rfl ?_
          refine gj_iload_n (pc' := 52) dX11_sillOf_51 rfl rfl ?_
          refine gr_X11_231 (pc' := 55) dX11_sillOf_52 rfl (m_placeOf hA (by omega)) rfl (by first | rfl | assumption) (by decide) rfl (Nat.le_of_ble_eq_true rfl) ?_
          refine gr_X11_234 (pc' := 58) dX11_sillOf_55 rfl (m_off (by have := p3 (by omega); omega) (by omega)) rfl (by decide) rfl (Nat.le_of_ble_eq_true rfl) ?_
          refine gj_aload_n (pc' := 59) dX11_sillOf_58 rfl rfl ?_
          refine gj_iload_n (pc' := 60) dX11_sillOf_59 rfl rfl ?_
          rw [show x = (y : Int) by omega]
          refine gr_X11_231 (pc' := 63) dX11_sillOf_60 rfl (m_placeOf hA (by omega)) rfl (by first | rfl | assumption) (by decide) rfl (Nat.le_of_ble_eq_true rfl) ?_
          refine gj_aload_n (pc' := 64) dX11_sillOf_63 rfl rfl ?_
          refine gj_iload_n (pc' := 65) dX11_sillOf_64 rfl rfl ?_
          refine gr_X11_231 (pc' := 68) dX11_sillOf_65 rfl (m_placeOf hA (by omega)) rfl (by first | rfl | assumption) (by decide) rfl (Nat.le_of_ble_eq_true rfl) ?_
          refine gr_X11_234 (pc' := 71) dX11_sillOf_68 rfl (m_off (by omega) (by omega)) rfl (by decide) rfl (Nat.le_of_ble_eq_true rfl) ?_
          refine gj_icmp_ge (pc' := 74) (tgt := 77) dX11_sillOf_71 (by decide) rfl (by have := nD_le (p3 (by omega)) p1; omega) (fun c71 => ?_) (fun c71 => ?_)
          · refine gj_iinc (pc' := 80) dX11_sillOf_77 rfl rfl (by decide) ?_
            refine gj_goto (pc' := 23) dX11_sillOf_80 (by decide) ?_
            refine gJ_wk (ih_k ?x_4 (by omega) ?iv_4) ?ll_4
            case ll_4 =>
              repeat' (first | exact True.intro | with_reducible exact rfl | refine And.intro ?_ ?_ | refine vI ?_ | refine vL ?_)
              all_goals omega
            rw [es]
            repeat' (first | omega | split)
          · refine gj_iload (pc' := 76) dX11_sillOf_74 rfl rfl ?_
            refine gj_istore_n (pc' := 77) dX11_sillOf_76 rfl (by decide) ?_
            refine gj_iinc (pc' := 80) dX11_sillOf_77 rfl rfl (by decide) ?_
            refine gj_goto (pc' := 23) dX11_sillOf_80 (by decide) ?_
            refine gJ_wk (ih_k ?x_5 (by omega) ?iv_5) ?ll_5
            case ll_5 =>
              repeat' (first | exact True.intro | with_reducible exact rfl | refine And.intro ?_ ?_ | refine vI ?_ | refine vL ?_)
              all_goals omega
            rw [es]
            repeat' (first | omega | split)
  · refine gj_iload_n (pc' := 16) dX11_sillOf_15 rfl rfl ?_
    refine gj_iret rfl dX11_sillOf_16 ?_
    exact gR_i (by rw [hse, if_neg (by omega)])
theorem m_flightOf {h : gH} {T S : Nat → Nat} {b : Nat} (hM : MI h T S) (hb : b < T 4) : gSp 3 yX11_flightOf cX11_flightOf 2 (some .int) [.ref 142, .int (zI (b : Int))] h (gR (.int (zI (tFl T b : Nat))) h) := by
  obtain ⟨hA, hT, hS⟩ := id hM
  have h4 : T 4 ≤ 7 := hT.2.2.2.2.1
  have h9 := hT.2.2.2.2.2.2.2.2.1 b hb
  refine gSp_of (by decide +kernel) (Nat.le_of_ble_eq_true rfl) ?_
  show gJ RX11 cX11_flightOf 2 (some .int) _ 0 [some (.ref 142), some (.int (zI (b : Int)))] [] _ _
  refine gj_aload_n (pc' := 1) dX11_flightOf_0 rfl rfl ?_
  refine gj_aload_n (pc' := 2) dX11_flightOf_1 rfl rfl ?_
  refine gj_iload_n (pc' := 3) dX11_flightOf_2 rfl rfl ?_
  refine gr_X11_243 (pc' := 6) dX11_flightOf_3 rfl (m_fromOf hA (by omega)) rfl (by first | rfl | assumption) (by decide) rfl (Nat.le_of_ble_eq_true rfl) ?_
  refine gj_aload_n (pc' := 7) dX11_flightOf_6 rfl rfl ?_
  refine gj_iload_n (pc' := 8) dX11_flightOf_7 rfl rfl ?_
  refine gr_X11_246 (pc' := 11) dX11_flightOf_8 rfl (m_sillOf hM hb) rfl (by first | rfl | assumption) (by decide) rfl (Nat.le_of_ble_eq_true rfl) ?_
  refine gr_X11_249 (pc' := 14) dX11_flightOf_11 rfl (m_daysApart hM (by omega) (tSill_lt hT hb)) rfl (by first | rfl | assumption) (by decide) rfl (Nat.le_of_ble_eq_true rfl) ?_
  refine gj_iret rfl dX11_flightOf_14 ?_
  exact gR_i rfl
theorem m_needOf {h : gH} {T S : Nat → Nat} {b : Nat} (hM : MI h T S) (hb : b < T 4) : gSp 2 yX11_needOf cX11_needOf 3 (some .int) [.ref 142, .int (zI (b : Int))] h (gR (.int (zI (tNe T b : Nat))) h) := by
  obtain ⟨hA, hT, hS⟩ := id hM
  have h4 : T 4 ≤ 7 := hT.2.2.2.2.1
  have h9 := hT.2.2.2.2.2.2.2.2.1 b hb
  refine gSp_of (by decide +kernel) (Nat.le_of_ble_eq_true rfl) ?_
  show gJ RX11 cX11_needOf 3 (some .int) _ 0 [some (.ref 142), some (.int (zI (b : Int))), none] [] _ _
  refine gj_aload_n (pc' := 1) dX11_needOf_0 rfl rfl ?_
  refine gf_X11_20 (pc' := 4) dX11_needOf_1 rfl (by first | rfl | assumption) rfl ?_
  refine gj_bipush (pc' := 6) dX11_needOf_4 rfl (by decide) ?_
  refine gj_iconst (pc' := 7) dX11_needOf_6 rfl ?_
  refine gj_iload_n (pc' := 8) dX11_needOf_7 rfl rfl ?_
  refine gj_imul (pc' := 9) dX11_needOf_8 rfl ?_
  refine gj_iadd (pc' := 10) dX11_needOf_9 rfl ?_
  refine gj_iconst (pc' := 11) dX11_needOf_10 rfl ?_
  refine gj_iadd (pc' := 12) dX11_needOf_11 rfl ?_
  refine gj_iald (pc' := 13) (j := 23 + 5 * b) (by first | rfl | assumption) (by omega) (by omega) (by decide) dX11_needOf_12 rfl ?_
  rw [hA.1 _ (by omega)]
  refine gj_istore_n (pc' := 14) dX11_needOf_13 rfl (by decide) ?_
  refine gj_aload_n (pc' := 15) dX11_needOf_14 rfl rfl ?_
  refine gj_iload_n (pc' := 16) dX11_needOf_15 rfl rfl ?_
  refine gr_X11_240 (pc' := 19) dX11_needOf_16 rfl (m_kindOf hA (by omega)) rfl (by first | rfl | assumption) (by decide) rfl (Nat.le_of_ble_eq_true rfl) ?_
  refine gj_iconst (pc' := 20) dX11_needOf_19 rfl ?_
  refine gj_icmp_ne (pc' := 23) (tgt := 31) dX11_needOf_20 (by decide) rfl (by omega) (fun c20 => ?_) (fun c20 => ?_)
  · refine gj_aload_n (pc' := 32) dX11_needOf_31 rfl rfl ?_
    refine gj_iload_n (pc' := 33) dX11_needOf_32 rfl rfl ?_
    refine gr_X11_240 (pc' := 36) dX11_needOf_33 rfl (m_kindOf hA (by omega)) rfl (by first | rfl | assumption) (by decide) rfl (Nat.le_of_ble_eq_true rfl) ?_
    refine gj_iconst (pc' := 37) dX11_needOf_36 rfl ?_
    refine gj_icmp_ne (pc' := 40) (tgt := 46) dX11_needOf_37 (by decide) rfl (by omega) (fun c37 => ?_) (fun c37 => ?_)
    · refine gj_iload_n (pc' := 47) dX11_needOf_46 rfl rfl ?_
      refine gj_iret rfl dX11_needOf_47 ?_
      exact gR_i (by unfold tNe tNeF; split <;> (try split) <;> omega)
    · refine gj_iconst (pc' := 41) dX11_needOf_40 rfl ?_
      refine gj_iload_n (pc' := 42) dX11_needOf_41 rfl rfl ?_
      refine gj_imul (pc' := 43) dX11_needOf_42 rfl ?_
      refine gj_goto (pc' := 47) dX11_needOf_43 (by decide) ?_
      refine gj_iret rfl dX11_needOf_47 ?_
      exact gR_i (by unfold tNe tNeF; split <;> (try split) <;> omega)
  · refine gj_iload_n (pc' := 24) dX11_needOf_23 rfl rfl ?_
    refine gj_iconst (pc' := 25) dX11_needOf_24 rfl ?_
    refine gj_iadd (pc' := 26) dX11_needOf_25 rfl ?_
    refine gj_iconst (pc' := 27) dX11_needOf_26 rfl ?_
    refine gj_idiv (pc' := 28) dX11_needOf_27 rfl (by omega) (by omega) ?_
    refine gj_goto (pc' := 47) dX11_needOf_28 (by decide) ?_
    refine gj_iret rfl dX11_needOf_47 ?_
    exact gR_i (by unfold tNe tNeF; split <;> (try split) <;> omega)
theorem m_isGone {h : gH} {T S : Nat → Nat} {b : Nat} (hA : MA h T S) (hs : S 19 < 128) (hb : b < 7) : gSp 2 yX11_isGone cX11_isGone 2 (some .boolean) [.ref 142, .int (zI (b : Int))] h (gR (.int (zI (bI (sGone S b)))) h) := by
  refine gSp_of (by decide +kernel) (Nat.le_of_ble_eq_true rfl) ?_
  show gJ RX11 cX11_isGone 2 (some .boolean) _ 0 [some (.ref 142), some (.int (zI (b : Int)))] [] _ _
  refine gj_aload_n (pc' := 1) dX11_isGone_0 rfl rfl ?_
  refine gf_X11_26 (pc' := 4) dX11_isGone_1 rfl (by first | rfl | assumption) rfl ?_
  refine gj_bipush (pc' := 6) dX11_isGone_4 rfl (by decide) ?_
  refine gj_iald (pc' := 7) (j := 19) (by first | rfl | assumption) (by omega) (by omega) (by decide) dX11_isGone_6 rfl ?_
  rw [hA.2 19 (by omega)]
  refine gj_iload_n (pc' := 8) dX11_isGone_7 rfl rfl ?_
  refine gr_X11_252 (pc' := 11) dX11_isGone_8 rfl (m_hasBit (by omega) (by omega)) rfl (by decide) rfl (Nat.le_of_ble_eq_true rfl) ?_
  refine gj_zret rfl (by first | rfl | exact gnZ _ | assumption) dX11_isGone_11 ?_
  exact gR_i rfl
theorem m_leftOf {h : gH} {T S : Nat → Nat} {b : Nat} (hM : MI h T S) (hb : b < T 4) : gSp 3 yX11_leftOf cX11_leftOf 2 (some .int) [.ref 142, .int (zI (b : Int))] h (gR (.int (zI (tLe T S b : Nat))) h) := by
  obtain ⟨hA, hT, hS⟩ := id hM
  have h4 : T 4 ≤ 7 := hT.2.2.2.2.1
  refine gSp_of (by decide +kernel) (Nat.le_of_ble_eq_true rfl) ?_
  show gJ RX11 cX11_leftOf 2 (some .int) _ 0 [some (.ref 142), some (.int (zI (b : Int)))] [] _ _
  refine gj_aload_n (pc' := 1) dX11_leftOf_0 rfl rfl ?_
  refine gj_iload_n (pc' := 2) dX11_leftOf_1 rfl rfl ?_
  refine gr_X11_256 (pc' := 5) dX11_leftOf_2 rfl (m_needOf hM hb) rfl (by first | rfl | assumption) (by decide) rfl (Nat.le_of_ble_eq_true rfl) ?_
  refine gj_aload_n (pc' := 6) dX11_leftOf_5 rfl rfl ?_
  refine gf_X11_26 (pc' := 9) dX11_leftOf_6 rfl (by first | rfl | assumption) rfl ?_
  refine gj_iload_n (pc' := 10) dX11_leftOf_9 rfl rfl ?_
  refine gj_iald (pc' := 11) (by first | rfl | assumption) rfl (by omega) (by decide) dX11_leftOf_10 rfl ?_
  rw [hA.2 b (by omega)]
  refine gj_isub (pc' := 12) dX11_leftOf_11 rfl ?_
  refine gj_iret rfl dX11_leftOf_12 ?_
  exact gR_i (tLe_eq hS hb).symm
def sWb (T : Nat → Nat) (b day : Nat) : Nat := if day < T (22 + 5 * b) then 0 else if day < tSf T b then 1 else 2
theorem m_whereBy {h : gH} {T S : Nat → Nat} {b day : Nat} (hM : MI h T S) (hb : b < T 4) (hd : day ≤ 2000) : gSp 4 yX11_whereBy cX11_whereBy 4 (some .int) [.ref 142, .int (zI (b : Int)), .int (zI (day : Int))] h (gR (.int (zI (sWb T b day : Nat))) h) := by
  obtain ⟨hA, hT, hS⟩ := id hM
  have h4 : T 4 ≤ 7 := hT.2.2.2.2.1
  have h9 := hT.2.2.2.2.2.2.2.2.1 b hb
  have hf := tFl_le hT hb
  have hsf : tSf T b = T (22 + 5 * b) + tFl T b := rfl
  refine gSp_of (by decide +kernel) (Nat.le_of_ble_eq_true rfl) ?_
  show gJ RX11 cX11_whereBy 4 (some .int) _ 0 [some (.ref 142), some (.int (zI (b : Int))), some (.int (zI (day : Int))), none] [] _ _
  refine gj_aload_n (pc' := 1) dX11_whereBy_0 rfl rfl ?_
  refine gf_X11_20 (pc' := 4) dX11_whereBy_1 rfl (by first | rfl | assumption) rfl ?_
  refine gj_bipush (pc' := 6) dX11_whereBy_4 rfl (by decide) ?_
  refine gj_iconst (pc' := 7) dX11_whereBy_6 rfl ?_
  refine gj_iload_n (pc' := 8) dX11_whereBy_7 rfl rfl ?_
  refine gj_imul (pc' := 9) dX11_whereBy_8 rfl ?_
  refine gj_iadd (pc' := 10) dX11_whereBy_9 rfl ?_
  refine gj_iconst (pc' := 11) dX11_whereBy_10 rfl ?_
  refine gj_iadd (pc' := 12) dX11_whereBy_11 rfl ?_
  refine gj_iald (pc' := 13) (j := 22 + 5 * b) (by first | rfl | assumption) (by omega) (by omega) (by decide) dX11_whereBy_12 rfl ?_
  rw [hA.1 _ (by omega)]
  refine gj_istore_n (pc' := 14) dX11_whereBy_13 rfl (by decide) ?_
  refine gj_iload_n (pc' := 15) dX11_whereBy_14 rfl rfl ?_
  refine gj_iload_n (pc' := 16) dX11_whereBy_15 rfl rfl ?_
  refine gj_icmp_ge (pc' := 19) (tgt := 23) dX11_whereBy_16 (by decide) rfl (by omega) (fun c16 => ?_) (fun c16 => ?_)
  · refine gj_iload_n (pc' := 24) dX11_whereBy_23 rfl rfl ?_
    refine gj_iload_n (pc' := 25) dX11_whereBy_24 rfl rfl ?_
    refine gj_aload_n (pc' := 26) dX11_whereBy_25 rfl rfl ?_
    refine gj_iload_n (pc' := 27) dX11_whereBy_26 rfl rfl ?_
    refine gr_X11_259 (pc' := 30) dX11_whereBy_27 rfl (m_flightOf hM hb) rfl (by first | rfl | assumption) (by decide) rfl (Nat.le_of_ble_eq_true rfl) ?_
    refine gj_iadd (pc' := 31) dX11_whereBy_30 rfl ?_
    refine gj_icmp_ge (pc' := 34) (tgt := 38) dX11_whereBy_31 (by decide) rfl (by omega) (fun c31 => ?_) (fun c31 => ?_)
    · refine gj_iconst (pc' := 39) dX11_whereBy_38 rfl ?_
      refine gj_iret rfl dX11_whereBy_39 ?_
      exact gR_i (by unfold sWb; split <;> (try split) <;> omega)
    · refine gj_iconst (pc' := 35) dX11_whereBy_34 rfl ?_
      refine gj_goto (pc' := 39) dX11_whereBy_35 (by decide) ?_
      refine gj_iret rfl dX11_whereBy_39 ?_
      exact gR_i (by unfold sWb; split <;> (try split) <;> omega)
  · refine gj_iconst (pc' := 20) dX11_whereBy_19 rfl ?_
    refine gj_goto (pc' := 39) dX11_whereBy_20 (by decide) ?_
    refine gj_iret rfl dX11_whereBy_39 ?_
    exact gR_i (by unfold sWb; split <;> (try split) <;> omega)
theorem m_whereOn {h : gH} {T S : Nat → Nat} {b day : Nat} (hM : MI h T S) (hb : b < T 4) (hd : day ≤ 2000) : gSp 5 yX11_whereOn cX11_whereOn 3 (some .int) [.ref 142, .int (zI (b : Int)), .int (zI (day : Int))] h (gR (.int (zI (sWh T S b day : Nat))) h) := by
  obtain ⟨hA, hT, hS⟩ := id hM
  have h4 : T 4 ≤ 7 := hT.2.2.2.2.1
  have g := sv19 hT hS
  refine gSp_of (by decide +kernel) (Nat.le_of_ble_eq_true rfl) ?_
  show gJ RX11 cX11_whereOn 3 (some .int) _ 0 [some (.ref 142), some (.int (zI (b : Int))), some (.int (zI (day : Int)))] [] _ _
  refine gj_aload_n (pc' := 1) dX11_whereOn_0 rfl rfl ?_
  refine gj_iload_n (pc' := 2) dX11_whereOn_1 rfl rfl ?_
  refine gr_X11_262 (pc' := 5) dX11_whereOn_2 rfl (m_isGone hA g (by omega)) rfl (by first | rfl | assumption) (by decide) rfl (Nat.le_of_ble_eq_true rfl) ?_
  first | refine gj_ifB_eq (pc' := 8) (tgt := 12) dX11_whereOn_5 (by decide) rfl (fun c5 => ?_) (fun c5 => ?_) | refine gj_if_eq (pc' := 8) (tgt := 12) dX11_whereOn_5 (by decide) rfl (by omega) (fun c5 => ?_) (fun c5 => ?_)
  · refine gj_aload_n (pc' := 13) dX11_whereOn_12 rfl rfl ?_
    refine gj_iload_n (pc' := 14) dX11_whereOn_13 rfl rfl ?_
    refine gj_iload_n (pc' := 15) dX11_whereOn_14 rfl rfl ?_
    refine gr_X11_265 (pc' := 18) dX11_whereOn_15 rfl (m_whereBy hM hb hd) rfl (by first | rfl | assumption) (by decide) rfl (Nat.le_of_ble_eq_true rfl) ?_
    refine gj_iret rfl dX11_whereOn_18 ?_
    first | exact gR_i (by unfold sWh; rw [if_pos c5]; rfl) | exact gR_i (by unfold sWh; rw [if_neg (by rw [c5]; decide)]; rfl)
  · refine gj_iconst (pc' := 9) dX11_whereOn_8 rfl ?_
    refine gj_goto (pc' := 18) dX11_whereOn_9 (by decide) ?_
    refine gj_iret rfl dX11_whereOn_18 ?_
    first | exact gR_i (by unfold sWh; rw [if_pos c5]; rfl) | exact gR_i (by unfold sWh; rw [if_neg (by rw [c5]; decide)]; rfl)
theorem bN_or0 {p : Nat → Bool} {n : Nat} (hn : n < 30) : (zI ((bN p n : Nat) : Int) ||| zI 0).toInt = ((bN p n : Nat) : Int) := by
  have h1 := bN_lt p n
  have h2 : 2 ^ n < 2 ^ 31 := Nat.pow_lt_pow_right (by omega) (by omega)
  have := bt_or (m := bN p n) (n := 0) (by omega) (by omega)
  rw [Nat.or_zero] at this
  exact this
theorem m_sitting {h : gH} {T S : Nat → Nat} {hs day : Nat} (hM : MI h T S) (hh : hs < 7) (hd : day ≤ 2000) : gSp 6 yX11_sitting cX11_sitting 5 (some .int) [.ref 142, .int (zI (hs : Int)), .int (zI (day : Int))] h (gR (.int (zI (sSet T S hs day : Nat))) h) := by
  obtain ⟨hA, hT, hS⟩ := id hM
  have h4 : T 4 ≤ 7 := hT.2.2.2.2.1
  have h3 := hT.2.2.2.1
  refine gSp_of (by decide +kernel) (Nat.le_of_ble_eq_true rfl) ?_
  show gJ RX11 cX11_sitting 5 (some .int) _ 0 [some (.ref 142), some (.int (zI (hs : Int))), some (.int (zI (day : Int))), none, none] [] _ _
  refine gj_iconst (pc' := 1) dX11_sitting_0 rfl ?_
  refine gj_istore_n (pc' := 2) dX11_sitting_1 rfl (by decide) ?_
  refine gj_iconst (pc' := 3) dX11_sitting_2 rfl ?_
  refine gj_istore (pc' := 5) dX11_sitting_3 rfl (by decide) ?_
  refine gJ_wk (gJ_for (L := fun b => [some (.ref 142), some (.int (zI (hs : Int))), some (.int (zI (day : Int))), some (.int (zI ((bN (sSit T S hs day) b : Nat) : Int))), some (.int (zI (b : Int)))]) (T 4) (fun b hb_b ih_b => ?_) (0) (Nat.zero_le _)) ?_
  · have hl : sWh T S b day ≤ 3 := by unfold sWh; repeat' (first | omega | split)
    refine gj_iload (pc' := 7) dX11_sitting_5 rfl rfl ?_
    refine gj_aload_n (pc' := 8) dX11_sitting_7 rfl rfl ?_
    refine gf_X11_20 (pc' := 11) dX11_sitting_8 rfl (by first | rfl | assumption) rfl ?_
    refine gj_iconst (pc' := 12) dX11_sitting_11 rfl ?_
    refine gj_iald (pc' := 13) (j := 4) (by first | rfl | assumption) (by omega) (by omega) (by decide) dX11_sitting_12 rfl ?_
    rw [hA.1 4 (by omega)]
    refine gj_icmp_ge (pc' := 16) (tgt := 54) dX11_sitting_13 (by decide) rfl (by omega) (fun c13 => ?_) (fun c13 => ?_)
    · refine gj_iload_n (pc' := 55) dX11_sitting_54 rfl rfl ?_
      refine gj_iret rfl dX11_sitting_55 ?_
      exact gR_i (by rw [show b = T 4 by omega]; rfl)
    · refine gj_iload_n (pc' := 17) dX11_sitting_16 rfl rfl ?_
      refine gj_aload_n (pc' := 18) dX11_sitting_17 rfl rfl ?_
      refine gj_iload (pc' := 20) dX11_sitting_18 rfl rfl ?_
      refine gr_X11_246 (pc' := 23) dX11_sitting_20 rfl (m_sillOf hM (by omega)) rfl (by first | rfl | assumption) (by decide) rfl (Nat.le_of_ble_eq_true rfl) ?_
      refine gj_iload_n (pc' := 24) dX11_sitting_23 rfl rfl ?_
      refine gj_icmp_ne (pc' := 27) (tgt := 45) dX11_sitting_24 (by decide) rfl (by have := tSill_lt hT (b := b) (by omega); omega) (fun c24 => ?_) (fun c24 => ?_)
      · refine gj_iconst (pc' := 46) dX11_sitting_45 rfl ?_
        refine gj_ior (pc' := 47) dX11_sitting_46 rfl ?_
        first | rw [bN_orI (by omega)] | rw [bN_or0 (by omega)]
        refine gj_istore_n (pc' := 48) dX11_sitting_47 rfl (by decide) ?_
        refine gj_iinc (pc' := 51) dX11_sitting_48 rfl rfl (by decide) ?_
        refine gj_goto (pc' := 5) dX11_sitting_51 (by decide) ?_
        refine gJ_wk (ih_b (by omega)) ?_
        repeat' (first | exact True.intro | with_reducible exact rfl | refine And.intro ?_ ?_ | refine vI ?_ | refine vL ?_)
        all_goals first | omega | (rw [bN_t (by unfold sSit; simp; omega)]) | (rw [bN_f (by unfold sSit; simp; omega)])
      · refine gj_aload_n (pc' := 28) dX11_sitting_27 rfl rfl ?_
        refine gj_iload (pc' := 30) dX11_sitting_28 rfl rfl ?_
        refine gj_iload_n (pc' := 31) dX11_sitting_30 rfl rfl ?_
        refine gr_X11_268 (pc' := 34) dX11_sitting_31 rfl (m_whereOn hM (by omega) hd) rfl (by first | rfl | assumption) (by decide) rfl (Nat.le_of_ble_eq_true rfl) ?_
        refine gj_iconst (pc' := 35) dX11_sitting_34 rfl ?_
        refine gj_icmp_ne (pc' := 38) (tgt := 45) dX11_sitting_35 (by decide) rfl (by omega) (fun c35 => ?_) (fun c35 => ?_)
        · refine gj_iconst (pc' := 46) dX11_sitting_45 rfl ?_
          refine gj_ior (pc' := 47) dX11_sitting_46 rfl ?_
          first | rw [bN_orI (by omega)] | rw [bN_or0 (by omega)]
          refine gj_istore_n (pc' := 48) dX11_sitting_47 rfl (by decide) ?_
          refine gj_iinc (pc' := 51) dX11_sitting_48 rfl rfl (by decide) ?_
          refine gj_goto (pc' := 5) dX11_sitting_51 (by decide) ?_
          refine gJ_wk (ih_b (by omega)) ?_
          repeat' (first | exact True.intro | with_reducible exact rfl | refine And.intro ?_ ?_ | refine vI ?_ | refine vL ?_)
          all_goals first | omega | (rw [bN_t (by unfold sSit; simp; omega)]) | (rw [bN_f (by unfold sSit; simp; omega)])
        · refine gj_iconst (pc' := 39) dX11_sitting_38 rfl ?_
          refine gj_iload (pc' := 41) dX11_sitting_39 rfl rfl ?_
          refine gj_ishl (pc' := 42) dX11_sitting_41 rfl ?_
          rw [bt_shl1 (by omega)]
          refine gj_goto (pc' := 46) dX11_sitting_42 (by decide) ?_
          refine gj_ior (pc' := 47) dX11_sitting_46 rfl ?_
          first | rw [bN_orI (by omega)] | rw [bN_or0 (by omega)]
          refine gj_istore_n (pc' := 48) dX11_sitting_47 rfl (by decide) ?_
          refine gj_iinc (pc' := 51) dX11_sitting_48 rfl rfl (by decide) ?_
          refine gj_goto (pc' := 5) dX11_sitting_51 (by decide) ?_
          refine gJ_wk (ih_b (by omega)) ?_
          repeat' (first | exact True.intro | with_reducible exact rfl | refine And.intro ?_ ?_ | refine vI ?_ | refine vL ?_)
          all_goals first | omega | (rw [bN_t (by unfold sSit; simp; omega)]) | (rw [bN_f (by unfold sSit; simp; omega)])
  · repeat' (first | exact True.intro | with_reducible exact rfl | refine And.intro ?_ ?_ | refine vI ?_ | refine vL ?_)
    all_goals first | rfl | omega
theorem m_allBirds {h : gH} {T S : Nat → Nat} (hA : MA h T S) (h4 : T 4 ≤ 7) : gSp 1 yX11_allBirds cX11_allBirds 1 (some .int) [.ref 142] h (gR (.int (zI ((2 ^ T 4 - 1 : Nat) : Int))) h) := by
  have hp1 : 1 ≤ 2 ^ T 4 := Nat.one_le_two_pow
  refine gSp_of (by decide +kernel) (Nat.le_of_ble_eq_true rfl) ?_
  show gJ RX11 cX11_allBirds 1 (some .int) _ 0 [some (.ref 142)] [] _ _
  refine gj_iconst (pc' := 1) dX11_allBirds_0 rfl ?_
  refine gj_aload_n (pc' := 2) dX11_allBirds_1 rfl rfl ?_
  refine gf_X11_20 (pc' := 5) dX11_allBirds_2 rfl (by first | rfl | assumption) rfl ?_
  refine gj_iconst (pc' := 6) dX11_allBirds_5 rfl ?_
  refine gj_iald (pc' := 7) (j := 4) (by first | rfl | assumption) (by omega) (by omega) (by decide) dX11_allBirds_6 rfl ?_
  rw [hA.1 4 (by omega)]
  refine gj_ishl (pc' := 8) dX11_allBirds_7 rfl ?_
  rw [bt_shl1 (by omega)]
  refine gj_iconst (pc' := 9) dX11_allBirds_8 rfl ?_
  refine gj_isub (pc' := 10) dX11_allBirds_9 rfl ?_
  refine gj_iret rfl dX11_allBirds_10 ?_
  exact gR_i (by omega)
theorem m_notGone {h : gH} {T S : Nat → Nat} (hM : MI h T S) : gSp 2 yX11_notGone cX11_notGone 1 (some .int) [.ref 142] h (gR (.int (zI ((nWo (2 ^ T 4 - 1) (S 19) : Nat) : Int))) h) := by
  obtain ⟨hA, hT, hS⟩ := id hM
  have h4 : T 4 ≤ 7 := hT.2.2.2.2.1
  have g := sv19 hT hS
  have hp : 2 ^ T 4 ≤ 128 := Nat.pow_le_pow_right (n := 2) (by omega) h4
  refine gSp_of (by decide +kernel) (Nat.le_of_ble_eq_true rfl) ?_
  show gJ RX11 cX11_notGone 1 (some .int) _ 0 [some (.ref 142)] [] _ _
  refine gj_aload_n (pc' := 1) dX11_notGone_0 rfl rfl ?_
  refine gr_X11_271 (pc' := 4) dX11_notGone_1 rfl (m_allBirds hA h4) rfl (by first | rfl | assumption) (by decide) rfl (Nat.le_of_ble_eq_true rfl) ?_
  refine gj_aload_n (pc' := 5) dX11_notGone_4 rfl rfl ?_
  refine gf_X11_26 (pc' := 8) dX11_notGone_5 rfl (by first | rfl | assumption) rfl ?_
  refine gj_bipush (pc' := 10) dX11_notGone_8 rfl (by decide) ?_
  refine gj_iald (pc' := 11) (j := 19) (by first | rfl | assumption) (by omega) (by omega) (by decide) dX11_notGone_10 rfl ?_
  rw [hA.2 19 (by omega)]
  refine gj_iconst (pc' := 12) dX11_notGone_11 rfl ?_
  refine gj_ixor (pc' := 13) dX11_notGone_12 rfl ?_
  refine gj_iand (pc' := 14) dX11_notGone_13 rfl ?_
  rw [bt_wo (by omega) (by omega)]
  refine gj_iret rfl dX11_notGone_14 ?_
  exact gR_i rfl
theorem m_against {h : gH} {T S : Nat → Nat} {hs : Nat} (hM : MI h T S) (hh : hs < 7) : gSp 3 yX11_against cX11_against 4 (some .int) [.ref 142, .int (zI (hs : Int))] h (gR (.int (zI (sAg T S hs : Nat))) h) := by
  obtain ⟨hA, hT, hS⟩ := id hM
  have h4 : T 4 ≤ 7 := hT.2.2.2.2.1
  have h3 := hT.2.2.2.1
  have g := sv19 hT hS
  refine gSp_of (by decide +kernel) (Nat.le_of_ble_eq_true rfl) ?_
  show gJ RX11 cX11_against 4 (some .int) _ 0 [some (.ref 142), some (.int (zI (hs : Int))), none, none] [] _ _
  refine gj_iconst (pc' := 1) dX11_against_0 rfl ?_
  refine gj_istore_n (pc' := 2) dX11_against_1 rfl (by decide) ?_
  refine gj_iconst (pc' := 3) dX11_against_2 rfl ?_
  refine gj_istore_n (pc' := 4) dX11_against_3 rfl (by decide) ?_
  refine gJ_wk (gJ_for (L := fun b => [some (.ref 142), some (.int (zI (hs : Int))), some (.int (zI ((bN (sFor T S hs) b : Nat) : Int))), some (.int (zI (b : Int)))]) (T 4) (fun b hb_b ih_b => ?_) (0) (Nat.zero_le _)) ?_
  · refine gj_iload_n (pc' := 5) dX11_against_4 rfl rfl ?_
    refine gj_aload_n (pc' := 6) dX11_against_5 rfl rfl ?_
    refine gf_X11_20 (pc' := 9) dX11_against_6 rfl (by first | rfl | assumption) rfl ?_
    refine gj_iconst (pc' := 10) dX11_against_9 rfl ?_
    refine gj_iald (pc' := 11) (j := 4) (by first | rfl | assumption) (by omega) (by omega) (by decide) dX11_against_10 rfl ?_
    rw [hA.1 4 (by omega)]
    refine gj_icmp_ge (pc' := 14) (tgt := 47) dX11_against_11 (by decide) rfl (by omega) (fun c11 => ?_) (fun c11 => ?_)
    · refine gj_iload_n (pc' := 48) dX11_against_47 rfl rfl ?_
      refine gj_iret rfl dX11_against_48 ?_
      exact gR_i (by rw [show b = T 4 by omega]; rfl)
    · refine gj_iload_n (pc' := 15) dX11_against_14 rfl rfl ?_
      refine gj_aload_n (pc' := 16) dX11_against_15 rfl rfl ?_
      refine gj_iload_n (pc' := 17) dX11_against_16 rfl rfl ?_
      refine gr_X11_262 (pc' := 20) dX11_against_17 rfl (m_isGone hA g (by omega)) rfl (by first | rfl | assumption) (by decide) rfl (Nat.le_of_ble_eq_true rfl) ?_
      first | refine gj_ifB_ne (pc' := 23) (tgt := 38) dX11_against_20 (by decide) rfl (fun c20 => ?_) (fun c20 => ?_) | refine gj_if_ne (pc' := 23) (tgt := 38) dX11_against_20 (by decide) rfl (by omega) (fun c20 => ?_) (fun c20 => ?_)
      · refine gj_iconst (pc' := 39) dX11_against_38 rfl ?_
        refine gj_ior (pc' := 40) dX11_against_39 rfl ?_
        first | rw [bN_orI (by omega)] | rw [bN_or0 (by omega)]
        refine gj_istore_n (pc' := 41) dX11_against_40 rfl (by decide) ?_
        refine gj_iinc (pc' := 44) dX11_against_41 rfl rfl (by decide) ?_
        refine gj_goto (pc' := 4) dX11_against_44 (by decide) ?_
        refine gJ_wk (ih_b (by omega)) ?_
        repeat' (first | exact True.intro | with_reducible exact rfl | refine And.intro ?_ ?_ | refine vI ?_ | refine vL ?_)
        all_goals first | omega | (rw [bN_t (by unfold sFor; rw [c20]; simp; omega)]) | (rw [bN_f (by unfold sFor; rw [c20]; simp; omega)]) | (rw [bN_f (by unfold sFor; rw [c20]; simp)])
      · refine gj_aload_n (pc' := 24) dX11_against_23 rfl rfl ?_
        refine gj_iload_n (pc' := 25) dX11_against_24 rfl rfl ?_
        refine gr_X11_237 (pc' := 28) dX11_against_25 rfl (m_forOf hA (by omega)) rfl (by first | rfl | assumption) (by decide) rfl (Nat.le_of_ble_eq_true rfl) ?_
        refine gj_iload_n (pc' := 29) dX11_against_28 rfl rfl ?_
        refine gj_icmp_ne (pc' := 32) (tgt := 38) dX11_against_29 (by decide) rfl (by have := hT.2.2.2.2.2.2.2.2.1 b (by omega); omega) (fun c29 => ?_) (fun c29 => ?_)
        · refine gj_iconst (pc' := 39) dX11_against_38 rfl ?_
          refine gj_ior (pc' := 40) dX11_against_39 rfl ?_
          first | rw [bN_orI (by omega)] | rw [bN_or0 (by omega)]
          refine gj_istore_n (pc' := 41) dX11_against_40 rfl (by decide) ?_
          refine gj_iinc (pc' := 44) dX11_against_41 rfl rfl (by decide) ?_
          refine gj_goto (pc' := 4) dX11_against_44 (by decide) ?_
          refine gJ_wk (ih_b (by omega)) ?_
          repeat' (first | exact True.intro | with_reducible exact rfl | refine And.intro ?_ ?_ | refine vI ?_ | refine vL ?_)
          all_goals first | omega | (rw [bN_t (by unfold sFor; rw [c20]; simp; omega)]) | (rw [bN_f (by unfold sFor; rw [c20]; simp; omega)]) | (rw [bN_f (by unfold sFor; rw [c20]; simp)])
        · refine gj_iconst (pc' := 33) dX11_against_32 rfl ?_
          refine gj_iload_n (pc' := 34) dX11_against_33 rfl rfl ?_
          refine gj_ishl (pc' := 35) dX11_against_34 rfl ?_
          rw [bt_shl1 (by omega)]
          refine gj_goto (pc' := 39) dX11_against_35 (by decide) ?_
          refine gj_ior (pc' := 40) dX11_against_39 rfl ?_
          first | rw [bN_orI (by omega)] | rw [bN_or0 (by omega)]
          refine gj_istore_n (pc' := 41) dX11_against_40 rfl (by decide) ?_
          refine gj_iinc (pc' := 44) dX11_against_41 rfl rfl (by decide) ?_
          refine gj_goto (pc' := 4) dX11_against_44 (by decide) ?_
          refine gJ_wk (ih_b (by omega)) ?_
          repeat' (first | exact True.intro | with_reducible exact rfl | refine And.intro ?_ ?_ | refine vI ?_ | refine vL ?_)
          all_goals first | omega | (rw [bN_t (by unfold sFor; rw [c20]; simp; omega)]) | (rw [bN_f (by unfold sFor; rw [c20]; simp; omega)]) | (rw [bN_f (by unfold sFor; rw [c20]; simp)])
  · repeat' (first | exact True.intro | with_reducible exact rfl | refine And.intro ?_ ?_ | refine vI ?_ | refine vL ?_)
    all_goals first | rfl | omega
theorem m_leftsOf {h : gH} {T S : Nat → Nat} {m : Nat} (hM : MI h T S) (hm : m < 256) : gSp 4 yX11_leftsOf cX11_leftsOf 4 (some .int) [.ref 142, .int (zI (m : Int))] h (gR (.int (zI (sSum T S m : Nat))) h) := by
  obtain ⟨hA, hT, hS⟩ := id hM
  have h4 : T 4 ≤ 7 := hT.2.2.2.2.1
  refine gSp_of (by decide +kernel) (Nat.le_of_ble_eq_true rfl) ?_
  show gJ RX11 cX11_leftsOf 4 (some .int) _ 0 [some (.ref 142), some (.int (zI (m : Int))), none, none] [] _ _
  refine gj_iconst (pc' := 1) dX11_leftsOf_0 rfl ?_
  refine gj_istore_n (pc' := 2) dX11_leftsOf_1 rfl (by decide) ?_
  refine gj_iconst (pc' := 3) dX11_leftsOf_2 rfl ?_
  refine gj_istore_n (pc' := 4) dX11_leftsOf_3 rfl (by decide) ?_
  refine gJ_wk (gJ_for (L := fun b => [some (.ref 142), some (.int (zI (m : Int))), some (.int (zI (sN (fun b => if m.testBit b then tLe T S b else 0) b : Nat))), some (.int (zI (b : Int)))]) (T 4) (fun b hb_b ih_b => ?_) (0) (Nat.zero_le _)) ?_
  · have es : sN (fun b => if m.testBit b then tLe T S b else 0) (b + 1) = sN (fun b => if m.testBit b then tLe T S b else 0) b + (if m.testBit b then tLe T S b else 0) := rfl
    refine gj_iload_n (pc' := 5) dX11_leftsOf_4 rfl rfl ?_
    refine gj_aload_n (pc' := 6) dX11_leftsOf_5 rfl rfl ?_
    refine gf_X11_20 (pc' := 9) dX11_leftsOf_6 rfl (by first | rfl | assumption) rfl ?_
    refine gj_iconst (pc' := 10) dX11_leftsOf_9 rfl ?_
    refine gj_iald (pc' := 11) (j := 4) (by first | rfl | assumption) (by omega) (by omega) (by decide) dX11_leftsOf_10 rfl ?_
    rw [hA.1 4 (by omega)]
    refine gj_icmp_ge (pc' := 14) (tgt := 40) dX11_leftsOf_11 (by decide) rfl (by omega) (fun c11 => ?_) (fun c11 => ?_)
    · refine gj_iload_n (pc' := 41) dX11_leftsOf_40 rfl rfl ?_
      refine gj_iret rfl dX11_leftsOf_41 ?_
      exact gR_i (by rw [show b = T 4 by omega]; rfl)
    · refine gj_iload_n (pc' := 15) dX11_leftsOf_14 rfl rfl ?_
      refine gj_iload_n (pc' := 16) dX11_leftsOf_15 rfl rfl ?_
      refine gj_iload_n (pc' := 17) dX11_leftsOf_16 rfl rfl ?_
      refine gr_X11_252 (pc' := 20) dX11_leftsOf_17 rfl (m_hasBit (by omega) (by omega)) rfl (by decide) rfl (Nat.le_of_ble_eq_true rfl) ?_
      first | refine gj_ifB_eq (pc' := 23) (tgt := 31) dX11_leftsOf_20 (by decide) rfl (fun c20 => ?_) (fun c20 => ?_) | refine gj_if_eq (pc' := 23) (tgt := 31) dX11_leftsOf_20 (by decide) rfl (by omega) (fun c20 => ?_) (fun c20 => ?_)
      · refine gj_iconst (pc' := 32) dX11_leftsOf_31 rfl ?_
        refine gj_iadd (pc' := 33) dX11_leftsOf_32 rfl ?_
        refine gj_istore_n (pc' := 34) dX11_leftsOf_33 rfl (by decide) ?_
        refine gj_iinc (pc' := 37) dX11_leftsOf_34 rfl rfl (by decide) ?_
        refine gj_goto (pc' := 4) dX11_leftsOf_37 (by decide) ?_
        refine gJ_wk (ih_b (by omega)) ?_
        repeat' (first | exact True.intro | with_reducible exact rfl | refine And.intro ?_ ?_ | refine vI ?_ | refine vL ?_)
        all_goals first | omega | (rw [es, if_pos c20]; omega) | (rw [es, if_neg (by rw [c20]; decide)]; omega)
      · refine gj_aload_n (pc' := 24) dX11_leftsOf_23 rfl rfl ?_
        refine gj_iload_n (pc' := 25) dX11_leftsOf_24 rfl rfl ?_
        refine gr_X11_274 (pc' := 28) dX11_leftsOf_25 rfl (m_leftOf hM (by omega)) rfl (by first | rfl | assumption) (by decide) rfl (Nat.le_of_ble_eq_true rfl) ?_
        refine gj_goto (pc' := 32) dX11_leftsOf_28 (by decide) ?_
        refine gj_iadd (pc' := 33) dX11_leftsOf_32 rfl ?_
        refine gj_istore_n (pc' := 34) dX11_leftsOf_33 rfl (by decide) ?_
        refine gj_iinc (pc' := 37) dX11_leftsOf_34 rfl rfl (by decide) ?_
        refine gj_goto (pc' := 4) dX11_leftsOf_37 (by decide) ?_
        refine gJ_wk (ih_b (by omega)) ?_
        repeat' (first | exact True.intro | with_reducible exact rfl | refine And.intro ?_ ?_ | refine vI ?_ | refine vL ?_)
        all_goals first | omega | (rw [es, if_pos c20]; omega) | (rw [es, if_neg (by rw [c20]; decide)]; omega)
  · repeat' (first | exact True.intro | with_reducible exact rfl | refine And.intro ?_ ?_ | refine vI ?_ | refine vL ?_)
    all_goals first | rfl | omega
theorem m_why {h : gH} {c : Bool} {v n : Int} (hv : -2147483648 ≤ v ∧ v ≤ 2147483647) (hn : 0 ≤ n ∧ n ≤ 2147483647) : gSp 2 yX11_why cX11_why 4 (some .int) [.ref 142, .int (zI (bI c)), .int (zI v), .int (zI n)] h (gR (.int (zI (if c = false then 1 else if 0 ≤ v ∧ v ≤ n then 0 else 2))) h) := by
  refine gSp_of (by decide +kernel) (Nat.le_of_ble_eq_true rfl) ?_
  show gJ RX11 cX11_why 4 (some .int) _ 0 [some (.ref 142), some (.int (zI (bI c))), some (.int (zI v)), some (.int (zI n))] [] _ _
  refine gj_iload_n (pc' := 1) dX11_why_0 rfl rfl ?_
  first | refine gj_ifB_ne (pc' := 4) (tgt := 8) dX11_why_1 (by decide) rfl (fun c1 => ?_) (fun c1 => ?_) | refine gj_if_ne (pc' := 4) (tgt := 8) dX11_why_1 (by decide) rfl (by omega) (fun c1 => ?_) (fun c1 => ?_)
  · refine gj_iload_n (pc' := 9) dX11_why_8 rfl rfl ?_
    refine gj_iconst (pc' := 10) dX11_why_9 rfl ?_
    refine gj_iload_n (pc' := 11) dX11_why_10 rfl rfl ?_
    refine gr_X11_138 (pc' := 14) dX11_why_11 rfl (m_in hv (by omega) (by omega)) rfl (by decide) rfl (Nat.le_of_ble_eq_true rfl) ?_
    first | refine gj_ifB_eq (pc' := 17) (tgt := 21) dX11_why_14 (by decide) rfl (fun c14 => ?_) (fun c14 => ?_) | refine gj_if_eq (pc' := 17) (tgt := 21) dX11_why_14 (by decide) rfl (by omega) (fun c14 => ?_) (fun c14 => ?_)
    · refine gj_iconst (pc' := 22) dX11_why_21 rfl ?_
      refine gj_iret rfl dX11_why_22 ?_
      first | exact gR_i (by rw [if_pos c1]) | exact gR_i (by rw [if_neg (by rw [c1]; decide), if_pos (of_decide_eq_true c14)]) | exact gR_i (by rw [if_neg (by rw [c1]; decide), if_neg (of_decide_eq_false c14)])
    · refine gj_iconst (pc' := 18) dX11_why_17 rfl ?_
      refine gj_goto (pc' := 22) dX11_why_18 (by decide) ?_
      refine gj_iret rfl dX11_why_22 ?_
      first | exact gR_i (by rw [if_pos c1]) | exact gR_i (by rw [if_neg (by rw [c1]; decide), if_pos (of_decide_eq_true c14)]) | exact gR_i (by rw [if_neg (by rw [c1]; decide), if_neg (of_decide_eq_false c14)])
  · refine gj_iconst (pc' := 5) dX11_why_4 rfl ?_
    refine gj_goto (pc' := 22) dX11_why_5 (by decide) ?_
    refine gj_iret rfl dX11_why_22 ?_
    first | exact gR_i (by rw [if_pos c1]) | exact gR_i (by rw [if_neg (by rw [c1]; decide), if_pos (of_decide_eq_true c14)]) | exact gR_i (by rw [if_neg (by rw [c1]; decide), if_neg (of_decide_eq_false c14)])
theorem m_whiteOf {h : gH} {T S : Nat → Nat} {hs n : Nat} (hM : MI h T S) (hh : hs < T 3) (hn : n ≤ 60) : gSp 7 yX11_whiteOf cX11_whiteOf 5 (some .int) [.ref 142, .int (zI (hs : Int)), .int (zI (n : Int))] h (gR (.int (zI (sWi T S hs n : Nat))) h) := by
  obtain ⟨hA, hT, hS⟩ := id hM
  have h4 : T 4 ≤ 7 := hT.2.2.2.2.1
  have h3 := hT.2.2.2.1
  have hd := hS.2.2.1
  refine gSp_of (by decide +kernel) (Nat.le_of_ble_eq_true rfl) ?_
  show gJ RX11 cX11_whiteOf 5 (some .int) _ 0 [some (.ref 142), some (.int (zI (hs : Int))), some (.int (zI (n : Int))), none, none] [] _ _
  refine gj_aload_n (pc' := 1) dX11_whiteOf_0 rfl rfl ?_
  refine gf_X11_26 (pc' := 4) dX11_whiteOf_1 rfl (by first | rfl | assumption) rfl ?_
  refine gj_bipush (pc' := 6) dX11_whiteOf_4 rfl (by decide) ?_
  refine gj_iload_n (pc' := 7) dX11_whiteOf_6 rfl rfl ?_
  refine gj_iadd (pc' := 8) dX11_whiteOf_7 rfl ?_
  refine gj_iald (pc' := 9) (j := 7 + hs) (by first | rfl | assumption) (by omega) (by omega) (by decide) dX11_whiteOf_8 rfl ?_
  rw [hA.2 _ (by omega)]
  refine gj_istore_n (pc' := 10) dX11_whiteOf_9 rfl (by decide) ?_
  refine gj_iconst (pc' := 11) dX11_whiteOf_10 rfl ?_
  refine gj_istore (pc' := 13) dX11_whiteOf_11 rfl (by decide) ?_
  refine gJ_wk (gJ_for (L := fun k => [some (.ref 142), some (.int (zI (hs : Int))), some (.int (zI (n : Int))), some (.int (zI ((S (7 + hs) + sN (fun k => sMany T S hs (S 20 + (k + 1))) k : Nat) : Int))), some (.int (zI ((k : Int) + 1)))]) (n) (fun k hb_k ih_k => ?_) (0) (Nat.zero_le _)) ?_
  · have es : sN (fun k => sMany T S hs (S 20 + (k + 1))) (k + 1) = sN (fun k => sMany T S hs (S 20 + (k + 1))) k + sMany T S hs (S 20 + (k + 1)) := rfl
    have lb : sSet T S hs (S 20 + (k + 1)) < 256 := pc_lt h4
    refine gj_iload (pc' := 15) dX11_whiteOf_13 rfl rfl ?_
    refine gj_iload_n (pc' := 16) dX11_whiteOf_15 rfl rfl ?_
    refine gj_icmp_gt (pc' := 19) (tgt := 46) dX11_whiteOf_16 (by decide) rfl (by omega) (fun c16 => ?_) (fun c16 => ?_)
    · refine gj_iload_n (pc' := 47) dX11_whiteOf_46 rfl rfl ?_
      refine gj_iret rfl dX11_whiteOf_47 ?_
      exact gR_i (by rw [show n = k by omega]; rfl)
    · refine gj_iload_n (pc' := 20) dX11_whiteOf_19 rfl rfl ?_
      refine gj_aload_n (pc' := 21) dX11_whiteOf_20 rfl rfl ?_
      refine gj_iload_n (pc' := 22) dX11_whiteOf_21 rfl rfl ?_
      refine gj_aload_n (pc' := 23) dX11_whiteOf_22 rfl rfl ?_
      refine gf_X11_26 (pc' := 26) dX11_whiteOf_23 rfl (by first | rfl | assumption) rfl ?_
      refine gj_bipush (pc' := 28) dX11_whiteOf_26 rfl (by decide) ?_
      refine gj_iald (pc' := 29) (j := 20) (by first | rfl | assumption) (by omega) (by omega) (by decide) dX11_whiteOf_28 rfl ?_
      rw [hA.2 20 (by omega)]
      refine gj_iload (pc' := 31) dX11_whiteOf_29 rfl rfl ?_
      refine gj_iadd (pc' := 32) dX11_whiteOf_31 rfl ?_
      rw [show ((S 20 : Int) + ((k : Int) + 1)) = ((S 20 + (k + 1) : Nat) : Int) by omega]
      refine gr_X11_280 (pc' := 35) dX11_whiteOf_32 rfl (m_sitting hM (by omega) (by omega)) rfl (by first | rfl | assumption) (by decide) rfl (Nat.le_of_ble_eq_true rfl) ?_
      refine gr_X11_295 (pc' := 38) dX11_whiteOf_35 rfl (m_ones (by omega)) rfl (by decide) rfl (Nat.le_of_ble_eq_true rfl) ?_
      change gJ _ _ _ _ _ _ _ (.int (zI ((sMany T S hs (S 20 + (k + 1)) : Nat) : Int)) :: _) _ _
      refine gj_iadd (pc' := 39) dX11_whiteOf_38 rfl ?_
      refine gj_istore_n (pc' := 40) dX11_whiteOf_39 rfl (by decide) ?_
      refine gj_iinc (pc' := 43) dX11_whiteOf_40 rfl rfl (by decide) ?_
      refine gj_goto (pc' := 13) dX11_whiteOf_43 (by decide) ?_
      refine gJ_wk (ih_k (by omega)) ?_
      repeat' (first | exact True.intro | with_reducible exact rfl | refine And.intro ?_ ?_ | refine vI ?_ | refine vL ?_)
      all_goals first | omega | (rw [es]; omega)
  · repeat' (first | exact True.intro | with_reducible exact rfl | refine And.intro ?_ ?_ | refine vI ?_ | refine vL ?_)
    all_goals first | rfl | omega
theorem m_canMeet {h : gH} {T S : Nat → Nat} {b c : Nat} (hM : MI h T S) (hb : b < T 4) (hc : c < T 4) : gSp 3 yX11_canMeet cX11_canMeet 3 (some .boolean) [.ref 142, .int (zI (b : Int)), .int (zI (c : Int))] h (gR (.int (zI (bI (sPair T S b c)))) h) := by
  obtain ⟨hA, hT, hS⟩ := id hM
  have h4 : T 4 ≤ 7 := hT.2.2.2.2.1
  have h3 := hT.2.2.2.1
  have g := sv19 hT hS
  have hb9 := hT.2.2.2.2.2.2.2.2.1 b hb
  have hc9 := hT.2.2.2.2.2.2.2.2.1 c hc
  refine gSp_of (by decide +kernel) (Nat.le_of_ble_eq_true rfl) ?_
  show gJ RX11 cX11_canMeet 3 (some .boolean) _ 0 [some (.ref 142), some (.int (zI (b : Int))), some (.int (zI (c : Int)))] [] _ _
  refine gj_iload_n (pc' := 1) dX11_canMeet_0 rfl rfl ?_
  refine gj_iload_n (pc' := 2) dX11_canMeet_1 rfl rfl ?_
  refine gj_icmp_eq (pc' := 5) (tgt := 51) dX11_canMeet_2 (by decide) rfl (by omega) (fun c2 => ?_) (fun c2 => ?_)
  · refine gj_iconst (pc' := 52) dX11_canMeet_51 rfl ?_
    refine gj_zret rfl (by first | rfl | exact gnZ _ | assumption) dX11_canMeet_52 ?_
    first | exact gR_t (by unfold sPair; rw [c10, c18]; simp; omega) | exact gR_f (by unfold sPair; rw [c10, c18]; simp; omega) | exact gR_f (by rw [show c = b by omega]; exact sPair_self hT hb) | exact gR_f (by unfold sPair; rw [c10]; rfl) | exact gR_f (by unfold sPair; rw [c18, c10]; rfl)
  · refine gj_aload_n (pc' := 6) dX11_canMeet_5 rfl rfl ?_
    refine gj_iload_n (pc' := 7) dX11_canMeet_6 rfl rfl ?_
    refine gr_X11_262 (pc' := 10) dX11_canMeet_7 rfl (m_isGone hA g (by omega)) rfl (by first | rfl | assumption) (by decide) rfl (Nat.le_of_ble_eq_true rfl) ?_
    first | refine gj_ifB_ne (pc' := 13) (tgt := 51) dX11_canMeet_10 (by decide) rfl (fun c10 => ?_) (fun c10 => ?_) | refine gj_if_ne (pc' := 13) (tgt := 51) dX11_canMeet_10 (by decide) rfl (by omega) (fun c10 => ?_) (fun c10 => ?_)
    · refine gj_iconst (pc' := 52) dX11_canMeet_51 rfl ?_
      refine gj_zret rfl (by first | rfl | exact gnZ _ | assumption) dX11_canMeet_52 ?_
      first | exact gR_t (by unfold sPair; rw [c10, c18]; simp; omega) | exact gR_f (by unfold sPair; rw [c10, c18]; simp; omega) | exact gR_f (by rw [show c = b by omega]; exact sPair_self hT hb) | exact gR_f (by unfold sPair; rw [c10]; rfl) | exact gR_f (by unfold sPair; rw [c18, c10]; rfl)
    · refine gj_aload_n (pc' := 14) dX11_canMeet_13 rfl rfl ?_
      refine gj_iload_n (pc' := 15) dX11_canMeet_14 rfl rfl ?_
      refine gr_X11_262 (pc' := 18) dX11_canMeet_15 rfl (m_isGone hA g (by omega)) rfl (by first | rfl | assumption) (by decide) rfl (Nat.le_of_ble_eq_true rfl) ?_
      first | refine gj_ifB_ne (pc' := 21) (tgt := 51) dX11_canMeet_18 (by decide) rfl (fun c18 => ?_) (fun c18 => ?_) | refine gj_if_ne (pc' := 21) (tgt := 51) dX11_canMeet_18 (by decide) rfl (by omega) (fun c18 => ?_) (fun c18 => ?_)
      · refine gj_iconst (pc' := 52) dX11_canMeet_51 rfl ?_
        refine gj_zret rfl (by first | rfl | exact gnZ _ | assumption) dX11_canMeet_52 ?_
        first | exact gR_t (by unfold sPair; rw [c10, c18]; simp; omega) | exact gR_f (by unfold sPair; rw [c10, c18]; simp; omega) | exact gR_f (by rw [show c = b by omega]; exact sPair_self hT hb) | exact gR_f (by unfold sPair; rw [c10]; rfl) | exact gR_f (by unfold sPair; rw [c18, c10]; rfl)
      · refine gj_aload_n (pc' := 22) dX11_canMeet_21 rfl rfl ?_
        refine gj_iload_n (pc' := 23) dX11_canMeet_22 rfl rfl ?_
        refine gr_X11_243 (pc' := 26) dX11_canMeet_23 rfl (m_fromOf hA (by omega)) rfl (by first | rfl | assumption) (by decide) rfl (Nat.le_of_ble_eq_true rfl) ?_
        refine gj_aload_n (pc' := 27) dX11_canMeet_26 rfl rfl ?_
        refine gj_iload_n (pc' := 28) dX11_canMeet_27 rfl rfl ?_
        refine gr_X11_237 (pc' := 31) dX11_canMeet_28 rfl (m_forOf hA (by omega)) rfl (by first | rfl | assumption) (by decide) rfl (Nat.le_of_ble_eq_true rfl) ?_
        refine gj_icmp_ne (pc' := 34) (tgt := 51) dX11_canMeet_31 (by decide) rfl (by omega) (fun c31 => ?_) (fun c31 => ?_)
        · refine gj_iconst (pc' := 52) dX11_canMeet_51 rfl ?_
          refine gj_zret rfl (by first | rfl | exact gnZ _ | assumption) dX11_canMeet_52 ?_
          first | exact gR_t (by unfold sPair; rw [c10, c18]; simp; omega) | exact gR_f (by unfold sPair; rw [c10, c18]; simp; omega) | exact gR_f (by rw [show c = b by omega]; exact sPair_self hT hb) | exact gR_f (by unfold sPair; rw [c10]; rfl) | exact gR_f (by unfold sPair; rw [c18, c10]; rfl)
        · refine gj_aload_n (pc' := 35) dX11_canMeet_34 rfl rfl ?_
          refine gj_iload_n (pc' := 36) dX11_canMeet_35 rfl rfl ?_
          refine gr_X11_237 (pc' := 39) dX11_canMeet_36 rfl (m_forOf hA (by omega)) rfl (by first | rfl | assumption) (by decide) rfl (Nat.le_of_ble_eq_true rfl) ?_
          refine gj_aload_n (pc' := 40) dX11_canMeet_39 rfl rfl ?_
          refine gj_iload_n (pc' := 41) dX11_canMeet_40 rfl rfl ?_
          refine gr_X11_243 (pc' := 44) dX11_canMeet_41 rfl (m_fromOf hA (by omega)) rfl (by first | rfl | assumption) (by decide) rfl (Nat.le_of_ble_eq_true rfl) ?_
          refine gj_icmp_ne (pc' := 47) (tgt := 51) dX11_canMeet_44 (by decide) rfl (by omega) (fun c44 => ?_) (fun c44 => ?_)
          · refine gj_iconst (pc' := 52) dX11_canMeet_51 rfl ?_
            refine gj_zret rfl (by first | rfl | exact gnZ _ | assumption) dX11_canMeet_52 ?_
            first | exact gR_t (by unfold sPair; rw [c10, c18]; simp; omega) | exact gR_f (by unfold sPair; rw [c10, c18]; simp; omega) | exact gR_f (by rw [show c = b by omega]; exact sPair_self hT hb) | exact gR_f (by unfold sPair; rw [c10]; rfl) | exact gR_f (by unfold sPair; rw [c18, c10]; rfl)
          · refine gj_iconst (pc' := 48) dX11_canMeet_47 rfl ?_
            refine gj_goto (pc' := 52) dX11_canMeet_48 (by decide) ?_
            refine gj_zret rfl (by first | rfl | exact gnZ _ | assumption) dX11_canMeet_52 ?_
            first | exact gR_t (by unfold sPair; rw [c10, c18]; simp; omega) | exact gR_f (by unfold sPair; rw [c10, c18]; simp; omega) | exact gR_f (by rw [show c = b by omega]; exact sPair_self hT hb) | exact gR_f (by unfold sPair; rw [c10]; rfl) | exact gR_f (by unfold sPair; rw [c18, c10]; rfl)
theorem m_meetingOf {h : gH} {T S : Nat → Nat} {b c : Nat} (hM : MI h T S) (hb : b < T 4) (hc : c < T 4) : gSp 4 yX11_meetingOf cX11_meetingOf 3 (some .int) [.ref 142, .int (zI (b : Int)), .int (zI (c : Int))] h (gR (.int (zI (nD (tLe T S b) (tLe T S c) : Nat))) h) := by
  obtain ⟨hA, hT, hS⟩ := id hM
  have e1 := tLe_le (S := S) hT hb
  have e2 := tLe_le (S := S) hT hc
  refine gSp_of (by decide +kernel) (Nat.le_of_ble_eq_true rfl) ?_
  show gJ RX11 cX11_meetingOf 3 (some .int) _ 0 [some (.ref 142), some (.int (zI (b : Int))), some (.int (zI (c : Int)))] [] _ _
  refine gj_aload_n (pc' := 1) dX11_meetingOf_0 rfl rfl ?_
  refine gj_iload_n (pc' := 2) dX11_meetingOf_1 rfl rfl ?_
  refine gr_X11_274 (pc' := 5) dX11_meetingOf_2 rfl (m_leftOf hM hb) rfl (by first | rfl | assumption) (by decide) rfl (Nat.le_of_ble_eq_true rfl) ?_
  refine gj_aload_n (pc' := 6) dX11_meetingOf_5 rfl rfl ?_
  refine gj_iload_n (pc' := 7) dX11_meetingOf_6 rfl rfl ?_
  refine gr_X11_274 (pc' := 10) dX11_meetingOf_7 rfl (m_leftOf hM hc) rfl (by first | rfl | assumption) (by decide) rfl (Nat.le_of_ble_eq_true rfl) ?_
  refine gr_X11_234 (pc' := 13) dX11_meetingOf_10 rfl (m_off (by omega) (by omega)) rfl (by decide) rfl (Nat.le_of_ble_eq_true rfl) ?_
  refine gj_iret rfl dX11_meetingOf_13 ?_
  exact gR_i rfl
theorem m_areTwo {h : gH} {T S : Nat → Nat} {ht : Bool} {v w : Int} (hM : MA h T S) (hh : h.1 142 14 = bI ht) (h4 : T 4 ≤ 7) (hv : -2147483648 ≤ v ∧ v ≤ 2147483647) (hw : -2147483648 ≤ w ∧ w ≤ 2147483647) : gSp 3 yX11_areTwo cX11_areTwo 3 (some .boolean) [.ref 142, .int (zI v), .int (zI w)] h (gR (.int (zI (bI (ht && decide (0 ≤ v ∧ v < (T 4 : Int)) && (ht && decide (0 ≤ w ∧ w < (T 4 : Int))) && decide (v ≠ w))))) h) := by
  refine gSp_of (by decide +kernel) (Nat.le_of_ble_eq_true rfl) ?_
  show gJ RX11 cX11_areTwo 3 (some .boolean) _ 0 [some (.ref 142), some (.int (zI v)), some (.int (zI w))] [] _ _
  refine gj_aload_n (pc' := 1) dX11_areTwo_0 rfl rfl ?_
  refine gj_iload_n (pc' := 2) dX11_areTwo_1 rfl rfl ?_
  refine gr_X11_286 (pc' := 5) dX11_areTwo_2 rfl (m_isBird hM hh h4 hv) rfl (by first | rfl | assumption) (by decide) rfl (Nat.le_of_ble_eq_true rfl) ?_
  first | refine gj_ifB_eq (pc' := 8) (tgt := 25) dX11_areTwo_5 (by decide) rfl (fun c5 => ?_) (fun c5 => ?_) | refine gj_if_eq (pc' := 8) (tgt := 25) dX11_areTwo_5 (by decide) rfl (by omega) (fun c5 => ?_) (fun c5 => ?_)
  · refine gj_iconst (pc' := 26) dX11_areTwo_25 rfl ?_
    refine gj_zret rfl (by first | rfl | exact gnZ _ | assumption) dX11_areTwo_26 ?_
    first | exact gR_t (by rw [c5, c13, decide_eq_true c18]; rfl) | exact gR_f (by rw [c5, c13, decide_eq_false (by omega)]; rfl) | exact gR_f (by rw [c13]; simp) | exact gR_f (by rw [c5]; rfl)
  · refine gj_aload_n (pc' := 9) dX11_areTwo_8 rfl rfl ?_
    refine gj_iload_n (pc' := 10) dX11_areTwo_9 rfl rfl ?_
    refine gr_X11_286 (pc' := 13) dX11_areTwo_10 rfl (m_isBird hM hh h4 hw) rfl (by first | rfl | assumption) (by decide) rfl (Nat.le_of_ble_eq_true rfl) ?_
    first | refine gj_ifB_eq (pc' := 16) (tgt := 25) dX11_areTwo_13 (by decide) rfl (fun c13 => ?_) (fun c13 => ?_) | refine gj_if_eq (pc' := 16) (tgt := 25) dX11_areTwo_13 (by decide) rfl (by omega) (fun c13 => ?_) (fun c13 => ?_)
    · refine gj_iconst (pc' := 26) dX11_areTwo_25 rfl ?_
      refine gj_zret rfl (by first | rfl | exact gnZ _ | assumption) dX11_areTwo_26 ?_
      first | exact gR_t (by rw [c5, c13, decide_eq_true c18]; rfl) | exact gR_f (by rw [c5, c13, decide_eq_false (by omega)]; rfl) | exact gR_f (by rw [c13]; simp) | exact gR_f (by rw [c5]; rfl)
    · refine gj_iload_n (pc' := 17) dX11_areTwo_16 rfl rfl ?_
      refine gj_iload_n (pc' := 18) dX11_areTwo_17 rfl rfl ?_
      refine gj_icmp_eq (pc' := 21) (tgt := 25) dX11_areTwo_18 (by decide) rfl (by omega) (fun c18 => ?_) (fun c18 => ?_)
      · refine gj_iconst (pc' := 26) dX11_areTwo_25 rfl ?_
        refine gj_zret rfl (by first | rfl | exact gnZ _ | assumption) dX11_areTwo_26 ?_
        first | exact gR_t (by rw [c5, c13, decide_eq_true c18]; rfl) | exact gR_f (by rw [c5, c13, decide_eq_false (by omega)]; rfl) | exact gR_f (by rw [c13]; simp) | exact gR_f (by rw [c5]; rfl)
      · refine gj_iconst (pc' := 22) dX11_areTwo_21 rfl ?_
        refine gj_goto (pc' := 26) dX11_areTwo_22 (by decide) ?_
        refine gj_zret rfl (by first | rfl | exact gnZ _ | assumption) dX11_areTwo_26 ?_
        first | exact gR_t (by rw [c5, c13, decide_eq_true c18]; rfl) | exact gR_f (by rw [c5, c13, decide_eq_false (by omega)]; rfl) | exact gR_f (by rw [c13]; simp) | exact gR_f (by rw [c5]; rfl)
theorem m_areHouses {h : gH} {T S : Nat → Nat} {ht : Bool} {v w : Int} (hM : MA h T S) (hh : h.1 142 14 = bI ht) (h3 : T 3 ≤ 6) (hv : -2147483648 ≤ v ∧ v ≤ 2147483647) (hw : -2147483648 ≤ w ∧ w ≤ 2147483647) : gSp 3 yX11_areHouses cX11_areHouses 3 (some .boolean) [.ref 142, .int (zI v), .int (zI w)] h (gR (.int (zI (bI (ht && decide (0 ≤ v ∧ v < (T 3 : Int)) && (ht && decide (0 ≤ w ∧ w < (T 3 : Int))) && decide (v ≠ w))))) h) := by
  refine gSp_of (by decide +kernel) (Nat.le_of_ble_eq_true rfl) ?_
  show gJ RX11 cX11_areHouses 3 (some .boolean) _ 0 [some (.ref 142), some (.int (zI v)), some (.int (zI w))] [] _ _
  refine gj_aload_n (pc' := 1) dX11_areHouses_0 rfl rfl ?_
  refine gj_iload_n (pc' := 2) dX11_areHouses_1 rfl rfl ?_
  refine gr_X11_277 (pc' := 5) dX11_areHouses_2 rfl (m_isHouse hM hh h3 hv) rfl (by first | rfl | assumption) (by decide) rfl (Nat.le_of_ble_eq_true rfl) ?_
  first | refine gj_ifB_eq (pc' := 8) (tgt := 25) dX11_areHouses_5 (by decide) rfl (fun c5 => ?_) (fun c5 => ?_) | refine gj_if_eq (pc' := 8) (tgt := 25) dX11_areHouses_5 (by decide) rfl (by omega) (fun c5 => ?_) (fun c5 => ?_)
  · refine gj_iconst (pc' := 26) dX11_areHouses_25 rfl ?_
    refine gj_zret rfl (by first | rfl | exact gnZ _ | assumption) dX11_areHouses_26 ?_
    first | exact gR_t (by rw [c5, c13, decide_eq_true c18]; rfl) | exact gR_f (by rw [c5, c13, decide_eq_false (by omega)]; rfl) | exact gR_f (by rw [c13]; simp) | exact gR_f (by rw [c5]; rfl)
  · refine gj_aload_n (pc' := 9) dX11_areHouses_8 rfl rfl ?_
    refine gj_iload_n (pc' := 10) dX11_areHouses_9 rfl rfl ?_
    refine gr_X11_277 (pc' := 13) dX11_areHouses_10 rfl (m_isHouse hM hh h3 hw) rfl (by first | rfl | assumption) (by decide) rfl (Nat.le_of_ble_eq_true rfl) ?_
    first | refine gj_ifB_eq (pc' := 16) (tgt := 25) dX11_areHouses_13 (by decide) rfl (fun c13 => ?_) (fun c13 => ?_) | refine gj_if_eq (pc' := 16) (tgt := 25) dX11_areHouses_13 (by decide) rfl (by omega) (fun c13 => ?_) (fun c13 => ?_)
    · refine gj_iconst (pc' := 26) dX11_areHouses_25 rfl ?_
      refine gj_zret rfl (by first | rfl | exact gnZ _ | assumption) dX11_areHouses_26 ?_
      first | exact gR_t (by rw [c5, c13, decide_eq_true c18]; rfl) | exact gR_f (by rw [c5, c13, decide_eq_false (by omega)]; rfl) | exact gR_f (by rw [c13]; simp) | exact gR_f (by rw [c5]; rfl)
    · refine gj_iload_n (pc' := 17) dX11_areHouses_16 rfl rfl ?_
      refine gj_iload_n (pc' := 18) dX11_areHouses_17 rfl rfl ?_
      refine gj_icmp_eq (pc' := 21) (tgt := 25) dX11_areHouses_18 (by decide) rfl (by omega) (fun c18 => ?_) (fun c18 => ?_)
      · refine gj_iconst (pc' := 26) dX11_areHouses_25 rfl ?_
        refine gj_zret rfl (by first | rfl | exact gnZ _ | assumption) dX11_areHouses_26 ?_
        first | exact gR_t (by rw [c5, c13, decide_eq_true c18]; rfl) | exact gR_f (by rw [c5, c13, decide_eq_false (by omega)]; rfl) | exact gR_f (by rw [c13]; simp) | exact gR_f (by rw [c5]; rfl)
      · refine gj_iconst (pc' := 22) dX11_areHouses_21 rfl ?_
        refine gj_goto (pc' := 26) dX11_areHouses_22 (by decide) ?_
        refine gj_zret rfl (by first | rfl | exact gnZ _ | assumption) dX11_areHouses_26 ?_
        first | exact gR_t (by rw [c5, c13, decide_eq_true c18]; rfl) | exact gR_f (by rw [c5, c13, decide_eq_false (by omega)]; rfl) | exact gR_f (by rw [c13]; simp) | exact gR_f (by rw [c5]; rfl)
theorem m_satOn {h : gH} {T S : Nat → Nat} {hs day : Nat} (hM : MI h T S) (hh : hs < 7) (hd : day ≤ 2000) : gSp 5 yX11_satOn cX11_satOn 5 (some .int) [.ref 142, .int (zI (hs : Int)), .int (zI (day : Int))] h (gR (.int (zI (sN (satN T hs day) (T 4) : Nat))) h) := by
  obtain ⟨hA, hT, hS⟩ := id hM
  have h4 : T 4 ≤ 7 := hT.2.2.2.2.1
  have h3 := hT.2.2.2.1
  refine gSp_of (by decide +kernel) (Nat.le_of_ble_eq_true rfl) ?_
  show gJ RX11 cX11_satOn 5 (some .int) _ 0 [some (.ref 142), some (.int (zI (hs : Int))), some (.int (zI (day : Int))), none, none] [] _ _
  refine gj_iconst (pc' := 1) dX11_satOn_0 rfl ?_
  refine gj_istore_n (pc' := 2) dX11_satOn_1 rfl (by decide) ?_
  refine gj_iconst (pc' := 3) dX11_satOn_2 rfl ?_
  refine gj_istore (pc' := 5) dX11_satOn_3 rfl (by decide) ?_
  refine gJ_wk (gJ_for (L := fun b => [some (.ref 142), some (.int (zI (hs : Int))), some (.int (zI (day : Int))), some (.int (zI (sN (satN T hs day) b : Nat))), some (.int (zI (b : Int)))]) (T 4) (fun b hb_b ih_b => ?_) (0) (Nat.zero_le _)) ?_
  · have es : sN (satN T hs day) (b + 1) = sN (satN T hs day) b + satN T hs day b := rfl
    have hl : (sWb T b day = 2 ∧ tSf T b ≤ day) ∨ (sWb T b day < 2 ∧ ¬ tSf T b ≤ day) := by
      have : tSf T b = T (22 + 5 * b) + tFl T b := rfl
      unfold sWb
      repeat' (first | omega | split)
    refine gj_iload (pc' := 7) dX11_satOn_5 rfl rfl ?_
    refine gj_aload_n (pc' := 8) dX11_satOn_7 rfl rfl ?_
    refine gf_X11_20 (pc' := 11) dX11_satOn_8 rfl (by first | rfl | assumption) rfl ?_
    refine gj_iconst (pc' := 12) dX11_satOn_11 rfl ?_
    refine gj_iald (pc' := 13) (j := 4) (by first | rfl | assumption) (by omega) (by omega) (by decide) dX11_satOn_12 rfl ?_
    rw [hA.1 4 (by omega)]
    refine gj_icmp_ge (pc' := 16) (tgt := 51) dX11_satOn_13 (by decide) rfl (by omega) (fun c13 => ?_) (fun c13 => ?_)
    · refine gj_iload_n (pc' := 52) dX11_satOn_51 rfl rfl ?_
      refine gj_iret rfl dX11_satOn_52 ?_
      exact gR_i (by rw [show b = T 4 by omega])
    · refine gj_iload_n (pc' := 17) dX11_satOn_16 rfl rfl ?_
      refine gj_aload_n (pc' := 18) dX11_satOn_17 rfl rfl ?_
      refine gj_iload (pc' := 20) dX11_satOn_18 rfl rfl ?_
      refine gr_X11_246 (pc' := 23) dX11_satOn_20 rfl (m_sillOf hM (by omega)) rfl (by first | rfl | assumption) (by decide) rfl (Nat.le_of_ble_eq_true rfl) ?_
      refine gj_iload_n (pc' := 24) dX11_satOn_23 rfl rfl ?_
      refine gj_icmp_ne (pc' := 27) (tgt := 42) dX11_satOn_24 (by decide) rfl (by have := tSill_lt hT (b := b) (by omega); omega) (fun c24 => ?_) (fun c24 => ?_)
      · refine gj_iconst (pc' := 43) dX11_satOn_42 rfl ?_
        refine gj_iadd (pc' := 44) dX11_satOn_43 rfl ?_
        refine gj_istore_n (pc' := 45) dX11_satOn_44 rfl (by decide) ?_
        refine gj_iinc (pc' := 48) dX11_satOn_45 rfl rfl (by decide) ?_
        refine gj_goto (pc' := 5) dX11_satOn_48 (by decide) ?_
        refine gJ_wk (ih_b (by omega)) ?_
        repeat' (first | exact True.intro | with_reducible exact rfl | refine And.intro ?_ ?_ | refine vI ?_ | refine vL ?_)
        all_goals first | omega | (rw [es]; unfold satN; split <;> omega)
      · refine gj_aload_n (pc' := 28) dX11_satOn_27 rfl rfl ?_
        refine gj_iload (pc' := 30) dX11_satOn_28 rfl rfl ?_
        refine gj_iload_n (pc' := 31) dX11_satOn_30 rfl rfl ?_
        refine gr_X11_265 (pc' := 34) dX11_satOn_31 rfl (m_whereBy hM (by omega) hd) rfl (by first | rfl | assumption) (by decide) rfl (Nat.le_of_ble_eq_true rfl) ?_
        refine gj_iconst (pc' := 35) dX11_satOn_34 rfl ?_
        refine gj_icmp_ne (pc' := 38) (tgt := 42) dX11_satOn_35 (by decide) rfl (by omega) (fun c35 => ?_) (fun c35 => ?_)
        · refine gj_iconst (pc' := 43) dX11_satOn_42 rfl ?_
          refine gj_iadd (pc' := 44) dX11_satOn_43 rfl ?_
          refine gj_istore_n (pc' := 45) dX11_satOn_44 rfl (by decide) ?_
          refine gj_iinc (pc' := 48) dX11_satOn_45 rfl rfl (by decide) ?_
          refine gj_goto (pc' := 5) dX11_satOn_48 (by decide) ?_
          refine gJ_wk (ih_b (by omega)) ?_
          repeat' (first | exact True.intro | with_reducible exact rfl | refine And.intro ?_ ?_ | refine vI ?_ | refine vL ?_)
          all_goals first | omega | (rw [es]; unfold satN; split <;> omega)
        · refine gj_iconst (pc' := 39) dX11_satOn_38 rfl ?_
          refine gj_goto (pc' := 43) dX11_satOn_39 (by decide) ?_
          refine gj_iadd (pc' := 44) dX11_satOn_43 rfl ?_
          refine gj_istore_n (pc' := 45) dX11_satOn_44 rfl (by decide) ?_
          refine gj_iinc (pc' := 48) dX11_satOn_45 rfl rfl (by decide) ?_
          refine gj_goto (pc' := 5) dX11_satOn_48 (by decide) ?_
          refine gJ_wk (ih_b (by omega)) ?_
          repeat' (first | exact True.intro | with_reducible exact rfl | refine And.intro ?_ ?_ | refine vI ?_ | refine vL ?_)
          all_goals first | omega | (rw [es]; unfold satN; split <;> omega)
  · repeat' (first | exact True.intro | with_reducible exact rfl | refine And.intro ?_ ?_ | refine vI ?_ | refine vL ?_)
    all_goals first | rfl | omega
