/-! Hawks -/
theorem lc0 {x : Int} (h : 0 ≤ x) : (if (0 : Int) < x then (1 : Int) else if x = 0 then 0 else -1) = bI (decide (x ≠ 0)) := by
  by_cases q : x = 0
  · subst q; rfl
  · rw [if_pos (by omega)]; simp [bI, q]
theorem p100 {v k : Nat} (hv : v ≤ 100) (hk : k ≤ 8) : v ^ k ≤ 10000000000000000 :=
  Nat.le_trans (Nat.pow_le_pow_left hv k) (Nat.le_trans (Nat.pow_le_pow_right (n := 100) (by omega) hk) (by decide +kernel))
theorem s_power {h : gH} {v n : Nat} (hn : n ≤ 8) : gSp 1 yX1_power cX1_power 6 (some .long) [.long (zL (v : Int)), .int (zI (n : Int))] h (gR (.long (zL ((v ^ n : Nat) : Int))) h) := by
  refine gSp_of (by decide +kernel) (Nat.le_of_ble_eq_true rfl) ?_
  show gJ RX1 cX1_power 6 (some .long) _ 0 [some (.long (zL (v : Int))), none, some (.int (zI (n : Int))), none, none, none] [] _ _
  refine gj_lconst (pc' := 1) dX1_power_0 rfl ?_
  show gJ _ _ _ _ _ _ _ (.long (zL 1) :: _) _ _
  refine gj_lstore_n (pc' := 2) dX1_power_1 rfl (by decide) ?_
  refine gj_iconst (pc' := 3) dX1_power_2 rfl ?_
  refine gj_istore (pc' := 5) dX1_power_3 rfl (by decide) ?_
  refine gJ_wk (gJ_for (L := fun b => [some (.long (zL (v : Int))), none, some (.int (zI (n : Int))), some (.long (zL ((v ^ b : Nat) : Int))), none, some (.int (zI (b : Int)))]) (n) (fun b hb_b ih_b => ?_) (0) (Nat.zero_le _)) ?_
  · refine gj_iload (pc' := 7) dX1_power_5 rfl rfl ?_
    refine gj_iload_n (pc' := 8) dX1_power_7 rfl rfl ?_
    refine gj_icmp_ge (pc' := 11) (tgt := 21) dX1_power_8 (by decide) rfl (by omega) (fun c8 => ?_) (fun c8 => ?_)
    · refine gj_lload_n (pc' := 22) dX1_power_21 rfl rfl ?_
      refine gj_lret rfl dX1_power_22 ?_
      exact gR_l (by rw [show b = n by omega])
    · refine gj_lload_n (pc' := 12) dX1_power_11 rfl rfl ?_
      refine gj_lload_n (pc' := 13) dX1_power_12 rfl rfl ?_
      refine gj_lmul (pc' := 14) dX1_power_13 rfl ?_
      refine gj_lstore_n (pc' := 15) dX1_power_14 rfl (by decide) ?_
      refine gj_iinc (pc' := 18) dX1_power_15 rfl rfl (by decide) ?_
      refine gj_goto (pc' := 5) dX1_power_18 (by decide) ?_
      refine gJ_wk (ih_b (by omega)) ?_
      repeat' (first | exact True.intro | with_reducible exact rfl | refine And.intro ?_ ?_ | refine vI ?_ | refine vL ?_)
      all_goals first | omega | (rw [Nat.pow_succ]; exact Int.natCast_mul _ _)
  · repeat' (first | exact True.intro | with_reducible exact rfl | refine And.intro ?_ ?_ | refine vI ?_ | refine vL ?_)
    all_goals first | rfl | omega
def gcdF : Nat → Nat → Nat → Nat
  | 0, a, _ => a
  | n + 1, a, b => if b = 0 then a else gcdF n b (a % b)
theorem gcdF_0 (n a : Nat) : gcdF n a 0 = a := by cases n <;> rfl
theorem gcdF_eq : ∀ (k n a b : Nat), b < 2 ^ k → 2 * k ≤ n → gcdF n a b = Nat.gcd a b
  | 0, n, a, b, hb, _ => by
    have : b = 0 := by simpa using hb
    subst this
    rw [gcdF_0, Nat.gcd_zero_right]
  | k + 1, n, a, b, hb, hn => by
    match n, hn with
    | n + 2, hn =>
      show (if b = 0 then a else gcdF (n + 1) b (a % b)) = _
      by_cases q : b = 0
      · rw [if_pos q, q, Nat.gcd_zero_right]
      · rw [if_neg q, Nat.gcd_comm, Nat.gcd_rec, Nat.gcd_comm]
        show (if a % b = 0 then b else gcdF n (a % b) (b % (a % b))) = _
        by_cases q2 : a % b = 0
        · rw [if_pos q2, q2, Nat.gcd_zero_right]
        · rw [if_neg q2]
          have h1 : a % b < b := Nat.mod_lt _ (by omega)
          have h2 : b % (a % b) < a % b := Nat.mod_lt _ (by omega)
          have h3 : b % (a % b) ≤ b - a % b := by rw [Nat.mod_eq_sub_mod (by omega)]; exact Nat.mod_le _ _
          have h4 : b % (a % b) < 2 ^ k := by rw [Nat.pow_succ] at hb; omega
          rw [gcdF_eq k n (a % b) (b % (a % b)) h4 (by omega)]
          conv => rhs; rw [Nat.gcd_comm, Nat.gcd_rec, Nat.gcd_comm]
theorem s_gcd {h : gH} {a b : Nat} (ha : a ≤ 90000000000000000) (hb : b ≤ 90000000000000000) : gSp 1 yX1_commonDivisor cX1_commonDivisor 11 (some .long) [.long (zL (a : Int)), .long (zL (b : Int))] h (gR (.long (zL ((Nat.gcd a b : Nat) : Int))) h) := by
  refine gSp_of (by decide +kernel) (Nat.le_of_ble_eq_true rfl) ?_
  show gJ RX1 cX1_commonDivisor 11 (some .long) _ 0 [some (.long (zL (a : Int))), none, some (.long (zL (b : Int))), none, none, none, none, none, none, none, none] [] _ _
  refine gj_lload_n (pc' := 1) dX1_commonDivisor_0 rfl rfl ?_
  refine gj_lstore (pc' := 3) dX1_commonDivisor_1 rfl (by decide) ?_
  refine gj_lload_n (pc' := 4) dX1_commonDivisor_3 rfl rfl ?_
  refine gj_lstore (pc' := 6) dX1_commonDivisor_4 rfl (by decide) ?_
  refine gj_iconst (pc' := 7) dX1_commonDivisor_6 rfl ?_
  refine gj_istore (pc' := 9) dX1_commonDivisor_7 rfl (by decide) ?_
  refine gJ_wk (gJ_fI2 (L := fun k x y => [some (.long (zL (a : Int))), none, some (.long (zL (b : Int))), none, some (.long (zL x)), none, some (.long (zL y)), none, some (.int (zI (k : Int))), none, none]) (I := fun k x y => ∃ u w : Nat, x = (u : Int) ∧ y = (w : Int) ∧ u ≤ 90000000000000000 ∧ w ≤ 90000000000000000 ∧ gcdF (200 - k) u w = Nat.gcd a b) (200) (fun k x y hb_k iv_k ih_k => ?step_1) (0) (Nat.zero_le _) ?x0_1 ?y0_1 ?iv0_1) ?ll0_1
  case ll0_1 =>
    repeat' (first | exact True.intro | with_reducible exact rfl | refine And.intro ?_ ?_ | refine vI ?_ | refine vL ?_)
    all_goals first | rfl | omega
  case iv0_1 =>
    exact ⟨a, b, rfl, rfl, ha, hb, gcdF_eq 57 200 a b (Nat.lt_of_le_of_lt hb (by decide +kernel)) (by omega)⟩
  obtain ⟨u, w, rfl, rfl, hu, hw, hg⟩ := iv_k
  refine gj_iload (pc' := 11) dX1_commonDivisor_9 rfl rfl ?_
  refine gj_sipush (pc' := 14) dX1_commonDivisor_11 rfl (by decide) ?_
  refine gj_icmp_ge (pc' := 17) (tgt := 45) dX1_commonDivisor_14 (by decide) rfl (by omega) (fun c14 => ?_) (fun c14 => ?_)
  · refine gj_lload (pc' := 47) dX1_commonDivisor_45 rfl rfl ?_
    refine gj_lret rfl dX1_commonDivisor_47 ?_
    first | (have hw0 : w = 0 := (by have := of_decide_eq_false c21; omega); exact gR_l (by rw [← hg, hw0, gcdF_0])) | exact gR_l (by rw [← hg, show 200 - k = 0 by omega]; rfl)
  · refine gj_lload (pc' := 19) dX1_commonDivisor_17 rfl rfl ?_
    refine gj_lconst (pc' := 20) dX1_commonDivisor_19 rfl ?_
    show gJ _ _ _ _ _ _ _ (.long (zL 0) :: _) _ _
    refine gj_lcmp (pc' := 21) dX1_commonDivisor_20 rfl (by omega) (by omega) ?_
    rw [lc0 (by omega)]
    first | refine gj_ifB_eq (pc' := 24) (tgt := 45) dX1_commonDivisor_21 (by decide) rfl (fun c21 => ?_) (fun c21 => ?_) | refine gj_if_eq (pc' := 24) (tgt := 45) dX1_commonDivisor_21 (by decide) rfl (by omega) (fun c21 => ?_) (fun c21 => ?_)
    · refine gj_lload (pc' := 47) dX1_commonDivisor_45 rfl rfl ?_
      refine gj_lret rfl dX1_commonDivisor_47 ?_
      first | (have hw0 : w = 0 := (by have := of_decide_eq_false c21; omega); exact gR_l (by rw [← hg, hw0, gcdF_0])) | exact gR_l (by rw [← hg, show 200 - k = 0 by omega]; rfl)
    · refine gj_lload (pc' := 26) dX1_commonDivisor_24 rfl rfl ?_
      refine gj_lload (pc' := 28) dX1_commonDivisor_26 rfl rfl ?_
      refine gj_lrem (pc' := 29) dX1_commonDivisor_28 rfl (by have := of_decide_eq_true c21; omega) (by have := of_decide_eq_true c21; omega) ?_
      refine gj_lstore (pc' := 31) dX1_commonDivisor_29 rfl (by decide) ?_
      refine gj_lload (pc' := 33) dX1_commonDivisor_31 rfl rfl ?_
      refine gj_lstore (pc' := 35) dX1_commonDivisor_33 rfl (by decide) ?_
      refine gj_lload (pc' := 37) dX1_commonDivisor_35 rfl rfl ?_
      refine gj_lstore (pc' := 39) dX1_commonDivisor_37 rfl (by decide) ?_
      refine gj_iinc (pc' := 42) dX1_commonDivisor_39 rfl rfl (by decide) ?_
      refine gj_goto (pc' := 9) dX1_commonDivisor_42 (by decide) ?_
      refine gJ_wk (ih_k ?x_2 ?y_2 (by omega) ?iv_2) ?ll_2
      case ll_2 =>
        repeat' (first | exact True.intro | with_reducible exact rfl | refine And.intro ?_ ?_ | refine vI ?_ | refine vL ?_)
        all_goals omega
      have hw0 : w ≠ 0 := by have := of_decide_eq_true c21; omega
      have hm : u % w < w := Nat.mod_lt _ (by omega)
      rw [show 200 - k = (200 - (k + 1)) + 1 by omega] at hg
      refine ⟨w, u % w, rfl, (Int.natCast_emod u w).symm, hw, by omega, ?_⟩
      rw [← hg]
      exact (if_neg hw0).symm
def sTerm (u w : Nat) (l : Bool) : Nat := (if l then w else u) / Nat.gcd u w
theorem s_term {h : gH} {u w : Nat} {l : Bool} (hu : u ≤ 90000000000000000) (hw : w ≤ 90000000000000000) (hw1 : 1 ≤ w) : gSp 2 yX1_term cX1_term 9 (some .long) [.long (zL (u : Int)), .long (zL (w : Int)), .int (zI (bI l))] h (gR (.long (zL ((sTerm u w l : Nat) : Int))) h) := by
  have hg1 : 1 ≤ Nat.gcd u w := Nat.gcd_pos_of_pos_right u (by omega)
  have hg2 : Nat.gcd u w ≤ w := Nat.gcd_le_right u (by omega)
  refine gSp_of (by decide +kernel) (Nat.le_of_ble_eq_true rfl) ?_
  show gJ RX1 cX1_term 9 (some .long) _ 0 [some (.long (zL (u : Int))), none, some (.long (zL (w : Int))), none, some (.int (zI (bI l))), none, none, none, none] [] _ _
  refine gj_lload_n (pc' := 1) dX1_term_0 rfl rfl ?_
  refine gj_lload_n (pc' := 2) dX1_term_1 rfl rfl ?_
  refine gr_X1_23 (pc' := 5) dX1_term_2 rfl (s_gcd hu hw) rfl (by decide) rfl (Nat.le_of_ble_eq_true rfl) ?_
  refine gj_lstore (pc' := 7) dX1_term_5 rfl (by decide) ?_
  refine gj_iload (pc' := 9) dX1_term_7 rfl rfl ?_
  first | refine gj_ifB_eq (pc' := 12) (tgt := 16) dX1_term_9 (by decide) rfl (fun c9 => ?_) (fun c9 => ?_) | refine gj_if_eq (pc' := 12) (tgt := 16) dX1_term_9 (by decide) rfl (by omega) (fun c9 => ?_) (fun c9 => ?_)
  · refine gj_lload_n (pc' := 17) dX1_term_16 rfl rfl ?_
    refine gj_lstore (pc' := 19) dX1_term_17 rfl (by decide) ?_
    refine gj_lload (pc' := 21) dX1_term_19 rfl rfl ?_
    refine gj_lconst (pc' := 22) dX1_term_21 rfl ?_
    show gJ _ _ _ _ _ _ _ (.long (zL 0) :: _) _ _
    refine gj_lcmp (pc' := 23) dX1_term_22 rfl (by omega) (by omega) ?_
    rw [lc0 (by omega)]
    first | refine gj_ifB_ne (pc' := 26) (tgt := 31) dX1_term_23 (by decide) rfl (fun c23 => ?_) (fun c23 => ?_) | refine gj_if_ne (pc' := 26) (tgt := 31) dX1_term_23 (by decide) rfl (by omega) (fun c23 => ?_) (fun c23 => ?_)
    · refine gj_lload (pc' := 33) dX1_term_31 rfl rfl ?_
      refine gj_lload (pc' := 35) dX1_term_33 rfl rfl ?_
      refine gj_ldiv (pc' := 36) dX1_term_35 rfl (by omega) (by omega) ?_
      refine gj_lret rfl dX1_term_36 ?_
      first | (exfalso; have := of_decide_eq_false c23; omega) | exact gR_l (by unfold sTerm; rw [c9]; exact (Int.natCast_ediv _ _).symm)
    · refine gj_lload (pc' := 28) dX1_term_26 rfl rfl ?_
      refine gj_goto (pc' := 36) dX1_term_28 (by decide) ?_
      refine gj_lret rfl dX1_term_36 ?_
      first | (exfalso; have := of_decide_eq_false c23; omega) | exact gR_l (by unfold sTerm; rw [c9]; exact (Int.natCast_ediv _ _).symm)
  · refine gj_lload_n (pc' := 13) dX1_term_12 rfl rfl ?_
    refine gj_goto (pc' := 17) dX1_term_13 (by decide) ?_
    refine gj_lstore (pc' := 19) dX1_term_17 rfl (by decide) ?_
    refine gj_lload (pc' := 21) dX1_term_19 rfl rfl ?_
    refine gj_lconst (pc' := 22) dX1_term_21 rfl ?_
    show gJ _ _ _ _ _ _ _ (.long (zL 0) :: _) _ _
    refine gj_lcmp (pc' := 23) dX1_term_22 rfl (by omega) (by omega) ?_
    rw [lc0 (by omega)]
    first | refine gj_ifB_ne (pc' := 26) (tgt := 31) dX1_term_23 (by decide) rfl (fun c23 => ?_) (fun c23 => ?_) | refine gj_if_ne (pc' := 26) (tgt := 31) dX1_term_23 (by decide) rfl (by omega) (fun c23 => ?_) (fun c23 => ?_)
    · refine gj_lload (pc' := 33) dX1_term_31 rfl rfl ?_
      refine gj_lload (pc' := 35) dX1_term_33 rfl rfl ?_
      refine gj_ldiv (pc' := 36) dX1_term_35 rfl (by omega) (by omega) ?_
      refine gj_lret rfl dX1_term_36 ?_
      first | (exfalso; have := of_decide_eq_false c23; omega) | exact gR_l (by unfold sTerm; rw [c9]; exact (Int.natCast_ediv _ _).symm)
    · refine gj_lload (pc' := 28) dX1_term_26 rfl rfl ?_
      refine gj_goto (pc' := 36) dX1_term_28 (by decide) ?_
      refine gj_lret rfl dX1_term_36 ?_
      first | (exfalso; have := of_decide_eq_false c23; omega) | exact gR_l (by unfold sTerm; rw [c9]; exact (Int.natCast_ediv _ _).symm)
def chC (a m : Nat) : Nat := fN (fun i p => p * (a - m + (i + 1)) / (i + 1)) 1 m
theorem chC_le : ∀ a, a ≤ 7 → ∀ m, m ≤ a → ∀ k, k ≤ m → fN (fun i p => p * (a - m + (i + 1)) / (i + 1)) 1 k ≤ 100 := by decide +kernel
theorem s_choices {h : gH} {a m : Nat} (ha : a ≤ 7) (hm : m ≤ a) : gSp 1 yX1_choices cX1_choices 5 (some .long) [.int (zI (a : Int)), .int (zI (m : Int))] h (gR (.long (zL ((chC a m : Nat) : Int))) h) := by
  refine gSp_of (by decide +kernel) (Nat.le_of_ble_eq_true rfl) ?_
  show gJ RX1 cX1_choices 5 (some .long) _ 0 [some (.int (zI (a : Int))), some (.int (zI (m : Int))), none, none, none] [] _ _
  refine gj_lconst (pc' := 1) dX1_choices_0 rfl ?_
  show gJ _ _ _ _ _ _ _ (.long (zL 1) :: _) _ _
  refine gj_lstore_n (pc' := 2) dX1_choices_1 rfl (by decide) ?_
  refine gj_iconst (pc' := 3) dX1_choices_2 rfl ?_
  refine gj_istore (pc' := 5) dX1_choices_3 rfl (by decide) ?_
  refine gJ_wk (gJ_for (L := fun b => [some (.int (zI (a : Int))), some (.int (zI (m : Int))), some (.long (zL ((fN (fun i p => p * (a - m + (i + 1)) / (i + 1)) 1 b : Nat) : Int))), none, some (.int (zI ((b : Int) + 1)))]) (m) (fun b hb_b ih_b => ?_) (0) (Nat.zero_le _)) ?_
  · have hp := chC_le a ha m hm b hb_b
    have es : fN (fun i p => p * (a - m + (i + 1)) / (i + 1)) 1 (b + 1) = (fN (fun i p => p * (a - m + (i + 1)) / (i + 1)) 1 b) * (a - m + (b + 1)) / (b + 1) := rfl
    have ec : b = m → chC a m = fN (fun i p => p * (a - m + (i + 1)) / (i + 1)) 1 b := fun q => by rw [q]; rfl
    generalize fN (fun i p => p * (a - m + (i + 1)) / (i + 1)) 1 b = x at hp es ec ⊢
    have hx : x * (a - m + (b + 1)) ≤ 100 * 8 := Nat.mul_le_mul hp (by omega)
    refine gj_iload (pc' := 7) dX1_choices_5 rfl rfl ?_
    refine gj_iload_n (pc' := 8) dX1_choices_7 rfl rfl ?_
    refine gj_icmp_gt (pc' := 11) (tgt := 31) dX1_choices_8 (by decide) rfl (by omega) (fun c8 => ?_) (fun c8 => ?_)
    · refine gj_lload_n (pc' := 32) dX1_choices_31 rfl rfl ?_
      refine gj_lret rfl dX1_choices_32 ?_
      exact gR_l (by rw [ec (by omega)])
    · refine gj_lload_n (pc' := 12) dX1_choices_11 rfl rfl ?_
      refine gj_iload_n (pc' := 13) dX1_choices_12 rfl rfl ?_
      refine gj_iload_n (pc' := 14) dX1_choices_13 rfl rfl ?_
      refine gj_isub (pc' := 15) dX1_choices_14 rfl ?_
      refine gj_iload (pc' := 17) dX1_choices_15 rfl rfl ?_
      refine gj_iadd (pc' := 18) dX1_choices_17 rfl ?_
      refine gj_i2l (pc' := 19) dX1_choices_18 rfl (by omega) ?_
      refine gj_lmul (pc' := 20) dX1_choices_19 rfl ?_
      rw [show ((x : Int) * ((a : Int) - (m : Int) + ((b : Int) + 1))) = ((x * (a - m + (b + 1)) : Nat) : Int) by rw [Int.natCast_mul]; congr 1; omega]
      refine gj_iload (pc' := 22) dX1_choices_20 rfl rfl ?_
      refine gj_i2l (pc' := 23) dX1_choices_22 rfl (by omega) ?_
      refine gj_ldiv (pc' := 24) dX1_choices_23 rfl (by omega) (by omega) ?_
      refine gj_lstore_n (pc' := 25) dX1_choices_24 rfl (by decide) ?_
      refine gj_iinc (pc' := 28) dX1_choices_25 rfl rfl (by decide) ?_
      refine gj_goto (pc' := 5) dX1_choices_28 (by decide) ?_
      refine gJ_wk (ih_b (by omega)) ?_
      repeat' (first | exact True.intro | with_reducible exact rfl | refine And.intro ?_ ?_ | refine vI ?_ | refine vL ?_)
      all_goals first | omega | (rw [es, Int.natCast_ediv]; congr 1)
  · repeat' (first | exact True.intro | with_reducible exact rfl | refine And.intro ?_ ?_ | refine vI ?_ | refine vL ?_)
    all_goals first | rfl | omega
def hUn (hk n : Nat) (l : Bool) : Nat := sTerm ((100 - hk) ^ n) (100 ^ n) l
theorem one_le_p (n : Nat) : 1 ≤ 100 ^ n := Nat.one_le_pow _ _ (by omega)
theorem s_untaken {h : gH} {hk n : Nat} {l : Bool} (hh : hk ≤ 100) (hn : n ≤ 8) : gSp 3 yX1_untaken cX1_untaken 3 (some .long) [.int (zI (hk : Int)), .int (zI (n : Int)), .int (zI (bI l))] h (gR (.long (zL ((hUn hk n l : Nat) : Int))) h) := by
  have b1 := p100 (v := 100 - hk) (k := n) (by omega) hn
  have b2 := p100 (v := 100) (k := n) (by omega) hn
  refine gSp_of (by decide +kernel) (Nat.le_of_ble_eq_true rfl) ?_
  show gJ RX1 cX1_untaken 3 (some .long) _ 0 [some (.int (zI (hk : Int))), some (.int (zI (n : Int))), some (.int (zI (bI l)))] [] _ _
  refine gj_bipush (pc' := 2) dX1_untaken_0 rfl (by decide) ?_
  refine gj_iload_n (pc' := 3) dX1_untaken_2 rfl rfl ?_
  refine gj_isub (pc' := 4) dX1_untaken_3 rfl ?_
  rw [show ((100 : Int) - (hk : Int)) = ((100 - hk : Nat) : Int) by omega]
  refine gj_i2l (pc' := 5) dX1_untaken_4 rfl (by omega) ?_
  refine gj_iload_n (pc' := 6) dX1_untaken_5 rfl rfl ?_
  refine gr_X1_9 (pc' := 9) dX1_untaken_6 rfl (s_power (v := 100 - hk) hn) rfl (by decide) rfl (Nat.le_of_ble_eq_true rfl) ?_
  refine gj_ldc2 (z := 100) (pc' := 12) dX1_untaken_9 rfl (gtb_at 1066 (by decide +kernel) rfl) ?_
  refine gj_iload_n (pc' := 13) dX1_untaken_12 rfl rfl ?_
  refine gr_X1_9 (pc' := 16) dX1_untaken_13 rfl (s_power (v := 100) hn) rfl (by decide) rfl (Nat.le_of_ble_eq_true rfl) ?_
  refine gj_iload_n (pc' := 17) dX1_untaken_16 rfl rfl ?_
  refine gr_X1_15 (pc' := 20) dX1_untaken_17 rfl (s_term (by omega) (by omega) (one_le_p n)) rfl (by decide) rfl (Nat.le_of_ble_eq_true rfl) ?_
  refine gj_lret rfl dX1_untaken_20 ?_
  exact gR_l rfl
def hOf (hk a m : Nat) (l : Bool) : Nat := if a < m then sTerm 0 1 l else sTerm (chC a m * (100 - hk) ^ m * hk ^ (a - m)) (100 ^ a) l
theorem s_untakenOf {h : gH} {hk a m : Nat} {l : Bool} (hh : hk ≤ 100) (ha : a ≤ 7) (hm : m ≤ 7) : gSp 3 yX1_untakenOf cX1_untakenOf 6 (some .long) [.int (zI (hk : Int)), .int (zI (a : Int)), .int (zI (m : Int)), .int (zI (bI l))] h (gR (.long (zL ((hOf hk a m l : Nat) : Int))) h) := by
  have b2 := p100 (v := 100) (k := a) (by omega) (by omega)
  have b3 : m ≤ a → chC a m * (100 - hk) ^ m * hk ^ (a - m) ≤ 90000000000000000 := by
    intro q
    have c1 : chC a m ≤ 100 := chC_le a ha m q m (Nat.le_refl m)
    have c2 : (100 - hk) ^ m * hk ^ (a - m) ≤ 100 ^ m * 100 ^ (a - m) := Nat.mul_le_mul (Nat.pow_le_pow_left (by omega) m) (Nat.pow_le_pow_left hh (a - m))
    rw [← Nat.pow_add, show m + (a - m) = a by omega] at c2
    have c3 : 100 ^ a ≤ 100 ^ 7 := Nat.pow_le_pow_right (by omega) ha
    have c4 : chC a m * ((100 - hk) ^ m * hk ^ (a - m)) ≤ 100 * 100 ^ 7 := Nat.mul_le_mul c1 (Nat.le_trans c2 c3)
    rw [Nat.mul_assoc]
    exact Nat.le_trans c4 (by decide +kernel)
  refine gSp_of (by decide +kernel) (Nat.le_of_ble_eq_true rfl) ?_
  show gJ RX1 cX1_untakenOf 6 (some .long) _ 0 [some (.int (zI (hk : Int))), some (.int (zI (a : Int))), some (.int (zI (m : Int))), some (.int (zI (bI l))), none, none] [] _ _
  refine gj_iload_n (pc' := 1) dX1_untakenOf_0 rfl rfl ?_
  refine gj_iload_n (pc' := 2) dX1_untakenOf_1 rfl rfl ?_
  refine gj_icmp_le (pc' := 5) (tgt := 12) dX1_untakenOf_2 (by decide) rfl (by omega) (fun c2 => ?_) (fun c2 => ?_)
  · refine gj_iload_n (pc' := 13) dX1_untakenOf_12 rfl rfl ?_
    refine gj_iload_n (pc' := 14) dX1_untakenOf_13 rfl rfl ?_
    refine gr_X1_19 (pc' := 17) dX1_untakenOf_14 rfl (s_choices ha (by omega)) rfl (by decide) rfl (Nat.le_of_ble_eq_true rfl) ?_
    refine gj_bipush (pc' := 19) dX1_untakenOf_17 rfl (by decide) ?_
    refine gj_iload_n (pc' := 20) dX1_untakenOf_19 rfl rfl ?_
    refine gj_isub (pc' := 21) dX1_untakenOf_20 rfl ?_
    rw [show ((100 : Int) - (hk : Int)) = ((100 - hk : Nat) : Int) by omega]
    refine gj_i2l (pc' := 22) dX1_untakenOf_21 rfl (by omega) ?_
    refine gj_iload_n (pc' := 23) dX1_untakenOf_22 rfl rfl ?_
    refine gr_X1_9 (pc' := 26) dX1_untakenOf_23 rfl (s_power (v := 100 - hk) (by omega)) rfl (by decide) rfl (Nat.le_of_ble_eq_true rfl) ?_
    refine gj_lmul (pc' := 27) dX1_untakenOf_26 rfl ?_
    refine gj_iload_n (pc' := 28) dX1_untakenOf_27 rfl rfl ?_
    refine gj_i2l (pc' := 29) dX1_untakenOf_28 rfl (by omega) ?_
    refine gj_iload_n (pc' := 30) dX1_untakenOf_29 rfl rfl ?_
    refine gj_iload_n (pc' := 31) dX1_untakenOf_30 rfl rfl ?_
    refine gj_isub (pc' := 32) dX1_untakenOf_31 rfl ?_
    rw [show ((a : Int) - (m : Int)) = ((a - m : Nat) : Int) by omega]
    refine gr_X1_9 (pc' := 35) dX1_untakenOf_32 rfl (s_power (v := hk) (by omega)) rfl (by decide) rfl (Nat.le_of_ble_eq_true rfl) ?_
    refine gj_lmul (pc' := 36) dX1_untakenOf_35 rfl ?_
    rw [← Int.natCast_mul, ← Int.natCast_mul]
    refine gj_lstore (pc' := 38) dX1_untakenOf_36 rfl (by decide) ?_
    refine gj_lload (pc' := 40) dX1_untakenOf_38 rfl rfl ?_
    refine gj_ldc2 (z := 100) (pc' := 43) dX1_untakenOf_40 rfl (gtb_at 1066 (by decide +kernel) rfl) ?_
    refine gj_iload_n (pc' := 44) dX1_untakenOf_43 rfl rfl ?_
    refine gr_X1_9 (pc' := 47) dX1_untakenOf_44 rfl (s_power (v := 100) (by omega)) rfl (by decide) rfl (Nat.le_of_ble_eq_true rfl) ?_
    refine gj_iload_n (pc' := 48) dX1_untakenOf_47 rfl rfl ?_
    refine gr_X1_15 (pc' := 51) dX1_untakenOf_48 rfl (s_term (b3 (by omega)) (by omega) (one_le_p a)) rfl (by decide) rfl (Nat.le_of_ble_eq_true rfl) ?_
    refine gj_lret rfl dX1_untakenOf_51 ?_
    first | exact gR_l (by unfold hOf; rw [if_pos (by omega)]) | exact gR_l (by unfold hOf; rw [if_neg (by omega)])
  · refine gj_lconst (pc' := 6) dX1_untakenOf_5 rfl ?_
    show gJ _ _ _ _ _ _ _ (.long (zL 0) :: _) _ _
    refine gj_lconst (pc' := 7) dX1_untakenOf_6 rfl ?_
    show gJ _ _ _ _ _ _ _ (.long (zL 1) :: _) _ _
    refine gj_iload_n (pc' := 8) dX1_untakenOf_7 rfl rfl ?_
    refine gr_X1_15 (pc' := 11) dX1_untakenOf_8 rfl (s_term (u := 0) (w := 1) (by omega) (by omega) (by omega)) rfl (by decide) rfl (Nat.le_of_ble_eq_true rfl) ?_
    refine gj_lret rfl dX1_untakenOf_11 ?_
    first | exact gR_l (by unfold hOf; rw [if_pos (by omega)]) | exact gR_l (by unfold hOf; rw [if_neg (by omega)])
def hMeS (hk n : Nat) : Nat → Nat := sN (fun k => (100 - hk) ^ (k + 1) * 100 ^ (n - (k + 1)))
def hMe (hk n : Nat) (l : Bool) : Nat := sTerm (hMeS hk n n) (100 ^ n) l
theorem s_meanDays {h : gH} {hk n : Nat} {l : Bool} (hh : hk ≤ 100) (hn : n ≤ 8) : gSp 3 yX1_meanDays cX1_meanDays 6 (some .long) [.int (zI (hk : Int)), .int (zI (n : Int)), .int (zI (bI l))] h (gR (.long (zL ((hMe hk n l : Nat) : Int))) h) := by
  have b2 := p100 (v := 100) (k := n) (by omega) hn
  have b3 : hMeS hk n n ≤ 90000000000000000 := by
    have := sN_le (f := fun k => (100 - hk) ^ (k + 1) * 100 ^ (n - (k + 1))) (c := 10000000000000000) (n := n) (fun k hk2 => by
      have c2 : (100 - hk) ^ (k + 1) * 100 ^ (n - (k + 1)) ≤ 100 ^ (k + 1) * 100 ^ (n - (k + 1)) := Nat.mul_le_mul (Nat.pow_le_pow_left (by omega) (k + 1)) (Nat.le_refl _)
      rw [← Nat.pow_add, show k + 1 + (n - (k + 1)) = n by omega] at c2
      exact Nat.le_trans c2 b2)
    unfold hMeS
    omega
  refine gSp_of (by decide +kernel) (Nat.le_of_ble_eq_true rfl) ?_
  show gJ RX1 cX1_meanDays 6 (some .long) _ 0 [some (.int (zI (hk : Int))), some (.int (zI (n : Int))), some (.int (zI (bI l))), none, none, none] [] _ _
  refine gj_lconst (pc' := 1) dX1_meanDays_0 rfl ?_
  show gJ _ _ _ _ _ _ _ (.long (zL 0) :: _) _ _
  refine gj_lstore_n (pc' := 2) dX1_meanDays_1 rfl (by decide) ?_
  refine gj_iconst (pc' := 3) dX1_meanDays_2 rfl ?_
  refine gj_istore (pc' := 5) dX1_meanDays_3 rfl (by decide) ?_
  refine gJ_wk (gJ_for (L := fun b => [some (.int (zI (hk : Int))), some (.int (zI (n : Int))), some (.int (zI (bI l))), some (.long (zL ((hMeS hk n b : Nat) : Int))), none, some (.int (zI ((b : Int) + 1)))]) (n) (fun b hb_b ih_b => ?_) (0) (Nat.zero_le _)) ?_
  · have es : hMeS hk n (b + 1) = hMeS hk n b + (100 - hk) ^ (b + 1) * 100 ^ (n - (b + 1)) := rfl
    refine gj_iload (pc' := 7) dX1_meanDays_5 rfl rfl ?_
    refine gj_iload_n (pc' := 8) dX1_meanDays_7 rfl rfl ?_
    refine gj_icmp_gt (pc' := 11) (tgt := 41) dX1_meanDays_8 (by decide) rfl (by omega) (fun c8 => ?_) (fun c8 => ?_)
    · refine gj_lload_n (pc' := 42) dX1_meanDays_41 rfl rfl ?_
      rw [show b = n by omega]
      refine gj_ldc2 (z := 100) (pc' := 45) dX1_meanDays_42 rfl (gtb_at 1066 (by decide +kernel) rfl) ?_
      refine gj_iload_n (pc' := 46) dX1_meanDays_45 rfl rfl ?_
      refine gr_X1_9 (pc' := 49) dX1_meanDays_46 rfl (s_power (v := 100) (by omega)) rfl (by decide) rfl (Nat.le_of_ble_eq_true rfl) ?_
      refine gj_iload_n (pc' := 50) dX1_meanDays_49 rfl rfl ?_
      refine gr_X1_15 (pc' := 53) dX1_meanDays_50 rfl (s_term b3 (by omega) (one_le_p n)) rfl (by decide) rfl (Nat.le_of_ble_eq_true rfl) ?_
      refine gj_lret rfl dX1_meanDays_53 ?_
      exact gR_l rfl
    · refine gj_lload_n (pc' := 12) dX1_meanDays_11 rfl rfl ?_
      refine gj_bipush (pc' := 14) dX1_meanDays_12 rfl (by decide) ?_
      refine gj_iload_n (pc' := 15) dX1_meanDays_14 rfl rfl ?_
      refine gj_isub (pc' := 16) dX1_meanDays_15 rfl ?_
      rw [show ((100 : Int) - (hk : Int)) = ((100 - hk : Nat) : Int) by omega]
      refine gj_i2l (pc' := 17) dX1_meanDays_16 rfl (by omega) ?_
      refine gj_iload (pc' := 19) dX1_meanDays_17 rfl rfl ?_
      rw [show ((b : Int) + 1) = ((b + 1 : Nat) : Int) by omega]
      refine gr_X1_9 (pc' := 22) dX1_meanDays_19 rfl (s_power (v := 100 - hk) (by omega)) rfl (by decide) rfl (Nat.le_of_ble_eq_true rfl) ?_
      refine gj_ldc2 (z := 100) (pc' := 25) dX1_meanDays_22 rfl (gtb_at 1066 (by decide +kernel) rfl) ?_
      refine gj_iload_n (pc' := 26) dX1_meanDays_25 rfl rfl ?_
      refine gj_iload (pc' := 28) dX1_meanDays_26 rfl rfl ?_
      refine gj_isub (pc' := 29) dX1_meanDays_28 rfl ?_
      rw [show ((n : Int) - ((b + 1 : Nat) : Int)) = ((n - (b + 1) : Nat) : Int) by omega]
      refine gr_X1_9 (pc' := 32) dX1_meanDays_29 rfl (s_power (v := 100) (by omega)) rfl (by decide) rfl (Nat.le_of_ble_eq_true rfl) ?_
      refine gj_lmul (pc' := 33) dX1_meanDays_32 rfl ?_
      refine gj_ladd (pc' := 34) dX1_meanDays_33 rfl ?_
      refine gj_lstore_n (pc' := 35) dX1_meanDays_34 rfl (by decide) ?_
      refine gj_iinc (pc' := 38) dX1_meanDays_35 rfl rfl (by decide) ?_
      refine gj_goto (pc' := 5) dX1_meanDays_38 (by decide) ?_
      refine gJ_wk (ih_b (by omega)) ?_
      repeat' (first | exact True.intro | with_reducible exact rfl | refine And.intro ?_ ?_ | refine vI ?_ | refine vL ?_)
      all_goals first | omega | (rw [es, Int.natCast_add, Int.natCast_mul])
  · repeat' (first | exact True.intro | with_reducible exact rfl | refine And.intro ?_ ?_ | refine vI ?_ | refine vL ?_)
    all_goals first | rfl | omega
