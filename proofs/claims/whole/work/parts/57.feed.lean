/-! the tape: bytes, feed -/
def sb8 (u : Int) : Int := if u < 128 then u else u - 256
def byN (a : Int) (i : Nat) : Nat := (zI ((zI a >>> (zI (24 - 8 * (i : Int)) &&& 31)).toInt) &&& zI 255).toBitVec.toNat
theorem and255 (x : Int32) : (x &&& zI 255).toBitVec.toNat = x.toBitVec.toNat % 256 := by
  have e : (zI 255).toBitVec.toNat = 2 ^ 8 - 1 := by decide +kernel
  rw [Int32.toBitVec_and, BitVec.toNat_and, e, Nat.and_two_pow_sub_one_eq_mod]
theorem byN_lt (a : Int) (i : Nat) : byN a i < 256 := by
  unfold byN
  rw [and255]
  exact Nat.mod_lt _ (by omega)
theorem by_m (a : Int) (i : Nat) : (zI ((zI a >>> (zI (24 - 8 * (i : Int)) &&& 31)).toInt) &&& zI 255).toInt = (byN a i : Int) := by
  have h := byN_lt a i
  unfold byN at h ⊢
  exact i32_toInt_small (by omega)
theorem by_x (a : Int) (i : Nat) : (zI ((zI a >>> (zI (24 - 8 * (i : Int)) &&& 31)).toInt)).toInt8.toInt32.toInt = sb8 (byN a i : Int) := by
  unfold byN sb8
  rw [and255, Int8.toInt_toInt32, Int32.toInt_toInt8]
  generalize zI ((zI a >>> (zI (24 - 8 * (i : Int)) &&& 31)).toInt) = x
  have e : x.toInt = x.toBitVec.toInt := rfl
  rw [e, BitVec.toInt_eq_toNat_cond, Int.bmod_def]
  have hb : x.toBitVec.toNat < 2 ^ 32 := x.toBitVec.isLt
  generalize x.toBitVec.toNat = n at hb ⊢
  split <;> (repeat' split) <;> omega
def RX (h : gH) (n : Nat) (B : Nat → Nat) : Prop := n ≤ 900 ∧ h.1 2 1 = (n : Int) ∧ ∀ j, j < n → B j < 256 ∧ h.1 3 j = sb8 (B j : Int)
def RM (h : gH) (n : Nat) (B : Nat → Nat) : Prop := n ≤ 900 ∧ h.1 142 2 = (n : Int) ∧ ∀ j, j < n → B j < 256 ∧ h.1 143 j = (B j : Int)
theorem sb8_in {u : Nat} (h : u < 256) : -128 ≤ sb8 (u : Int) ∧ sb8 (u : Int) ≤ 127 := by unfold sb8; split <;> omega
theorem s_put {h : gH} {a : Int} {n : Nat} (hn : h.1 2 1 = (n : Int)) (h9 : n + 4 ≤ 900) : gSp 1 yX8_put cX8_put 3 none [.ref 2, .int (zI a)] h (fun v h' => v = none ∧ h'.2 = h.2 ∧ (∀ o, o ≠ 2 → o ≠ 3 → h'.1 o = h.1 o) ∧ (∀ k, k ≠ 1 → h'.1 2 k = h.1 2 k) ∧ h'.1 2 1 = ((n + 4 : Nat) : Int) ∧ (∀ j, j < n → h'.1 3 j = h.1 3 j) ∧ (∀ i, i < 4 → h'.1 3 (n + i) = sb8 (byN a i : Int))) := by
  refine gSp_of (by decide +kernel) (Nat.le_of_ble_eq_true rfl) ?_
  show gJ RX8 cX8_put 3 none _ 0 [some (.ref 2), some (.int (zI a)), none] [] _ _
  refine gj_bipush (pc' := 2) dX8_put_0 rfl (by decide) ?_
  refine gj_istore_n (pc' := 3) dX8_put_2 rfl (by decide) ?_
  refine gJ_wk (gJ_fH0 (L := fun i  => [some (.ref 2), some (.int (zI a)), some (.int (zI (24 - 8 * (i : Int))))]) (I := fun i  hp => hp.2 = h.2 ∧ (∀ o, o ≠ 2 → o ≠ 3 → hp.1 o = h.1 o) ∧ (∀ k, k ≠ 1 → hp.1 2 k = h.1 2 k) ∧ hp.1 2 1 = ((n + i : Nat) : Int) ∧ (∀ j, j < n → hp.1 3 j = h.1 3 j) ∧ (∀ q, q < i → hp.1 3 (n + q) = sb8 (byN a q : Int))) (4) (fun i  hp hb_i iv_i ih_i => ?step_1) (0) (Nat.zero_le _)  _ ?iv0_1) ?ll0_1
  case ll0_1 =>
    repeat' (first | exact True.intro | with_reducible exact rfl | refine And.intro ?_ ?_ | refine vI ?_ | refine vL ?_)
    all_goals first | rfl | omega
  case iv0_1 =>
    exact ⟨rfl, fun _ _ _ => rfl, fun _ _ => rfl, hn, fun _ _ => rfl, fun q hq => absurd hq (Nat.not_lt_zero q)⟩
  obtain ⟨i1, i2, i3, i4, i5, i6⟩ := iv_i
  have hbi := sb8_in (byN_lt a i)
  refine gj_iload_n (pc' := 4) dX8_put_3 rfl rfl ?_
  refine gj_if_lt (pc' := 7) (tgt := 46) dX8_put_4 (by decide) rfl (by omega) (fun c4 => ?_) (fun c4 => ?_)
  · refine gj_vret rfl dX8_put_46 ?_
    exact ⟨rfl, i1, i2, i3, by rw [i4, show i = 4 by omega], i5, fun q hq => i6 q (by omega)⟩
  · refine gj_aload_n (pc' := 8) dX8_put_7 rfl rfl ?_
    refine gf_X8_13 (pc' := 11) dX8_put_8 rfl (by first | rfl | assumption) rfl ?_
    rw [i4]
    refine gj_sipush (pc' := 14) dX8_put_11 rfl (by decide) ?_
    refine gj_icmp_ge (pc' := 17) (tgt := 46) dX8_put_14 (by decide) rfl (by omega) (fun c14 => ?_) (fun c14 => ?_)
    · exfalso; omega
    · refine gj_aload_n (pc' := 18) dX8_put_17 rfl rfl ?_
      refine gf_X8_9 (pc' := 21) dX8_put_18 rfl (by first | rfl | assumption) rfl ?_
      refine gj_aload_n (pc' := 22) dX8_put_21 rfl rfl ?_
      refine gf_X8_13 (pc' := 25) dX8_put_22 rfl (by first | rfl | assumption) rfl ?_
      rw [i4]
      refine gj_iload_n (pc' := 26) dX8_put_25 rfl rfl ?_
      refine gj_iload_n (pc' := 27) dX8_put_26 rfl rfl ?_
      refine gj_ishr (pc' := 28) dX8_put_27 rfl ?_
      refine gj_i2b (pc' := 29) dX8_put_28 rfl ?_
      rw [by_x]
      refine gj_bast (pc' := 30) (j := n + i) (by first | rfl | assumption) (by omega) (by omega) (by decide) (by omega) dX8_put_29 rfl ?_
      refine gj_aload_n (pc' := 31) dX8_put_30 rfl rfl ?_
      refine gj_dup (pc' := 32) dX8_put_31 rfl rfl ?_
      refine gf_X8_13 (pc' := 35) dX8_put_32 rfl (by first | rfl | assumption) rfl ?_
      rw [gui_n (by decide), i4]
      refine gj_iconst (pc' := 36) dX8_put_35 rfl ?_
      refine gj_iadd (pc' := 37) dX8_put_36 rfl ?_
      refine gp_X8_13 (pc' := 40) dX8_put_37 rfl (by first | rfl | assumption) rfl ?_
      refine gj_iinc (pc' := 43) dX8_put_40 rfl rfl (by decide) ?_
      refine gj_goto (pc' := 3) dX8_put_43 (by decide) ?_
      refine gJ_wk (ih_i  _ (by omega) ?iv_2) ?ll_2
      case ll_2 =>
        repeat' (first | exact True.intro | with_reducible exact rfl | refine And.intro ?_ ?_ | refine vI ?_ | refine vL ?_)
        all_goals omega
      refine ⟨i1, fun o o1 o2 => (gui_n o1).trans ((gui_n o2).trans (i2 o o1 o2)), fun k hk => ?_, ?_, fun j hj => ?_, fun q hq => ?_⟩
      · rw [gui_s, up1_n hk, gui_n (by decide)]; exact i3 k hk
      · rw [gui_s, up1_s]; omega
      · rw [gui_n (by decide), gui_s, up1_n (by omega)]; exact i5 j hj
      · rw [gui_n (by decide), gui_s]
        by_cases z : q = i
        · rw [z, up1_s]
        · rw [up1_n (by omega)]; exact i6 q (by omega)
/-- the bytes behind a feed -/
def fdB (B : Nat → Nat) (n : Nat) (ar : Nat → Int) (j : Nat) : Nat := if j < n then B j else byN (ar ((j - n) / 4)) ((j - n) % 4)
theorem fdB_lo {B : Nat → Nat} {n : Nat} {ar : Nat → Int} {j : Nat} (h : j < n) : fdB B n ar j = B j := if_pos h
theorem fdB_hi {B : Nat → Nat} {n : Nat} {ar : Nat → Int} {q i : Nat} (hi : i < 4) : fdB B n ar (n + 4 * q + i) = byN (ar q) i := by
  unfold fdB
  rw [if_neg (by omega), show (n + 4 * q + i - n) / 4 = q by omega, show (n + 4 * q + i - n) % 4 = i by omega]
theorem x_feed {h : gH} {n : Nat} {B : Nat → Nat} {ar : Nat → Int} (hR : RX h n B) : gSp 12 yX10_feed cX10_feed 7 (some .int) [.ref 0, .int (zI (ar 0)), .int (zI (ar 1)), .int (zI (ar 2)), .int (zI (ar 3)), .int (zI (ar 4))] h (fun v h' => v = some (.int (zI (if 900 < n + 20 then -1 else ((n + 20 : Nat) : Int)))) ∧ h'.2 = h.2 ∧ (∀ o, o ≠ 2 → o ≠ 3 → h'.1 o = h.1 o) ∧ (900 < n + 20 → RX h' n B) ∧ (¬ 900 < n + 20 → RX h' (n + 20) (fdB B n ar))) := by
  obtain ⟨r1, r2, r3⟩ := id hR
  refine gSp_of (by decide +kernel) (Nat.le_of_ble_eq_true rfl) ?_
  show gJ RX10 cX10_feed 7 (some .int) _ 0 [some (.ref 0), some (.int (zI (ar 0))), some (.int (zI (ar 1))), some (.int (zI (ar 2))), some (.int (zI (ar 3))), some (.int (zI (ar 4))), none] [] _ _
  refine gj_aload_n (pc' := 1) dX10_feed_0 rfl rfl ?_
  refine gf_X10_10 (pc' := 4) dX10_feed_1 rfl (by first | rfl | assumption) rfl ?_
  refine gf_X10_58 (pc' := 7) dX10_feed_4 rfl (by first | rfl | assumption) rfl ?_
  refine gj_astore (pc' := 9) dX10_feed_7 rfl (by decide) ?_
  refine gj_aload (pc' := 11) dX10_feed_9 rfl rfl ?_
  refine gf_X10_62 (pc' := 14) dX10_feed_11 rfl (by first | rfl | assumption) rfl ?_
  rw [r2]
  refine gj_bipush (pc' := 16) dX10_feed_14 rfl (by decide) ?_
  refine gj_iadd (pc' := 17) dX10_feed_16 rfl ?_
  refine gj_sipush (pc' := 20) dX10_feed_17 rfl (by decide) ?_
  refine gj_icmp_le (pc' := 23) (tgt := 25) dX10_feed_20 (by decide) rfl (by omega) (fun c20 => ?_) (fun c20 => ?_)
  · refine gj_aload (pc' := 27) dX10_feed_25 rfl rfl ?_
    refine gj_iload_n (pc' := 28) dX10_feed_27 rfl rfl ?_
    refine gc_X10_68 (pc' := 31) dX10_feed_28 rfl (s_put (n := n) r2 (by omega)) rfl (by first | rfl | assumption) (by decide) rfl (Nat.le_of_ble_eq_true rfl) (fun v9 h9 q9 => ?_)
    obtain ⟨rfl, a0, a1, a2, a3, a4, a5⟩ := q9
    obtain ⟨ha, rfl⟩ : ∃ x, x = h9 := ⟨h9, rfl⟩
    show gJ _ _ _ _ _ _ _ [] _ _
    refine gj_aload (pc' := 33) dX10_feed_31 rfl rfl ?_
    refine gj_iload_n (pc' := 34) dX10_feed_33 rfl rfl ?_
    refine gc_X10_68 (pc' := 37) dX10_feed_34 rfl (s_put (n := n + 4) a3 (by omega)) rfl (by first | rfl | assumption) (by decide) rfl (Nat.le_of_ble_eq_true rfl) (fun v9 h9 q9 => ?_)
    obtain ⟨rfl, b0, b1, b2, b3, b4, b5⟩ := q9
    obtain ⟨hb, rfl⟩ : ∃ x, x = h9 := ⟨h9, rfl⟩
    show gJ _ _ _ _ _ _ _ [] _ _
    refine gj_aload (pc' := 39) dX10_feed_37 rfl rfl ?_
    refine gj_iload_n (pc' := 40) dX10_feed_39 rfl rfl ?_
    refine gc_X10_68 (pc' := 43) dX10_feed_40 rfl (s_put (n := n + 4 + 4) b3 (by omega)) rfl (by first | rfl | assumption) (by decide) rfl (Nat.le_of_ble_eq_true rfl) (fun v9 h9 q9 => ?_)
    obtain ⟨rfl, c0, c1, c2, c3, c4, c5⟩ := q9
    obtain ⟨hc, rfl⟩ : ∃ x, x = h9 := ⟨h9, rfl⟩
    show gJ _ _ _ _ _ _ _ [] _ _
    refine gj_aload (pc' := 45) dX10_feed_43 rfl rfl ?_
    refine gj_iload (pc' := 47) dX10_feed_45 rfl rfl ?_
    refine gc_X10_68 (pc' := 50) dX10_feed_47 rfl (s_put (n := n + 4 + 4 + 4) c3 (by omega)) rfl (by first | rfl | assumption) (by decide) rfl (Nat.le_of_ble_eq_true rfl) (fun v9 h9 q9 => ?_)
    obtain ⟨rfl, d0, d1, d2, d3, d4, d5⟩ := q9
    obtain ⟨hd, rfl⟩ : ∃ x, x = h9 := ⟨h9, rfl⟩
    show gJ _ _ _ _ _ _ _ [] _ _
    refine gj_aload (pc' := 52) dX10_feed_50 rfl rfl ?_
    refine gj_iload (pc' := 54) dX10_feed_52 rfl rfl ?_
    refine gc_X10_68 (pc' := 57) dX10_feed_54 rfl (s_put (n := n + 4 + 4 + 4 + 4) d3 (by omega)) rfl (by first | rfl | assumption) (by decide) rfl (Nat.le_of_ble_eq_true rfl) (fun v9 h9 q9 => ?_)
    obtain ⟨rfl, e0, e1, e2, e3, e4, e5⟩ := q9
    obtain ⟨he, rfl⟩ : ∃ x, x = h9 := ⟨h9, rfl⟩
    show gJ _ _ _ _ _ _ _ [] _ _
    refine gj_aload (pc' := 59) dX10_feed_57 rfl rfl ?_
    refine gf_X10_62 (pc' := 62) dX10_feed_59 rfl (by first | rfl | assumption) rfl ?_
    rw [e3]
    refine gj_iret rfl dX10_feed_62 ?_
    refine ⟨by rw [if_neg (by omega)], e0.trans (d0.trans (c0.trans (b0.trans a0))), fun o o1 o2 => (e1 o o1 o2).trans ((d1 o o1 o2).trans ((c1 o o1 o2).trans ((b1 o o1 o2).trans (a1 o o1 o2)))), fun q => by omega, fun _ => ⟨by omega, e3, fun j hj => ?_⟩⟩
    by_cases z : j < n
    · rw [fdB_lo z, e4 j (by omega), d4 j (by omega), c4 j (by omega), b4 j (by omega), a4 j z]
      exact r3 j z
    · obtain ⟨i, q, hi, hq, hj2⟩ : ∃ i q : Nat, i < 4 ∧ q < 5 ∧ j = n + 4 * q + i := ⟨(j - n) % 4, (j - n) / 4, Nat.mod_lt _ (by omega), by omega, by omega⟩
      rw [hj2, fdB_hi hi]
      refine ⟨byN_lt _ _, ?_⟩
      rcases (show q = 0 ∨ q = 1 ∨ q = 2 ∨ q = 3 ∨ q = 4 by omega) with rfl | rfl | rfl | rfl | rfl
      · rw [show n + 4 * 0 + i = n + i by omega, e4 _ (by omega), d4 _ (by omega), c4 _ (by omega), b4 _ (by omega)]; exact a5 i hi
      · rw [show n + 4 * 1 + i = n + 4 + i by omega, e4 _ (by omega), d4 _ (by omega), c4 _ (by omega)]; exact b5 i hi
      · rw [show n + 4 * 2 + i = n + 4 + 4 + i by omega, e4 _ (by omega), d4 _ (by omega)]; exact c5 i hi
      · rw [show n + 4 * 3 + i = n + 4 + 4 + 4 + i by omega, e4 _ (by omega)]; exact d5 i hi
      · rw [show n + 4 * 4 + i = n + 4 + 4 + 4 + 4 + i by omega]; exact e5 i hi
  · refine gj_iconst (pc' := 24) dX10_feed_23 rfl ?_
    refine gj_iret rfl dX10_feed_24 ?_
    exact ⟨by rw [if_pos (by omega)], rfl, fun _ _ _ => rfl, fun _ => hR, fun q => by omega⟩
theorem m_feed {h : gH} {n : Nat} {B : Nat → Nat} {ar : Nat → Int} (hR : RM h n B) : gSp 12 yX11_feed cX11_feed 8 (some .int) [.ref 142, .int (zI (ar 0)), .int (zI (ar 1)), .int (zI (ar 2)), .int (zI (ar 3)), .int (zI (ar 4))] h (fun v h' => v = some (.int (zI (if 900 < n + 20 then -1 else ((n + 20 : Nat) : Int)))) ∧ h'.2 = h.2 ∧ (∀ o, o ≠ 142 → o ≠ 143 → h'.1 o = h.1 o) ∧ (∀ k, k ≠ 0 → k ≠ 2 → h'.1 142 k = h.1 142 k) ∧ (900 < n + 20 → RM h' n B) ∧ (¬ 900 < n + 20 → RM h' (n + 20) (fdB B n ar))) := by
  obtain ⟨r1, r2, r3⟩ := id hR
  refine gSp_of (by decide +kernel) (Nat.le_of_ble_eq_true rfl) ?_
  show gJ RX11 cX11_feed 8 (some .int) _ 0 [some (.ref 142), some (.int (zI (ar 0))), some (.int (zI (ar 1))), some (.int (zI (ar 2))), some (.int (zI (ar 3))), some (.int (zI (ar 4))), none, none] [] _ _
  refine gj_aload_n (pc' := 1) dX11_feed_0 rfl rfl ?_
  refine gj_iconst (pc' := 2) dX11_feed_1 rfl ?_
  refine gp_X11_53 (pc' := 5) dX11_feed_2 rfl (by first | rfl | assumption) rfl ?_
  refine gj_aload_n (pc' := 6) dX11_feed_5 rfl rfl ?_
  refine gf_X11_59 (pc' := 9) dX11_feed_6 rfl (by first | rfl | assumption) rfl ?_
  rw [gui_s, up1_n (by decide), r2]
  refine gj_bipush (pc' := 11) dX11_feed_9 rfl (by decide) ?_
  refine gj_iadd (pc' := 12) dX11_feed_11 rfl ?_
  refine gj_sipush (pc' := 15) dX11_feed_12 rfl (by decide) ?_
  refine gj_icmp_le (pc' := 18) (tgt := 20) dX11_feed_15 (by decide) rfl (by omega) (fun c15 => ?_) (fun c15 => ?_)
  · refine gj_iconst (pc' := 21) dX11_feed_20 rfl ?_
    refine gj_istore (pc' := 23) dX11_feed_21 rfl (by decide) ?_
    refine gJ_wk (gJ_fH0 (L := fun k  => [some (.ref 142), some (.int (zI (ar 0))), some (.int (zI (ar 1))), some (.int (zI (ar 2))), some (.int (zI (ar 3))), some (.int (zI (ar 4))), some (.int (zI (k : Int))), none]) (I := fun k  hp => hp.2 = h.2 ∧ (∀ o, o ≠ 142 → o ≠ 143 → hp.1 o = h.1 o) ∧ (∀ k, k ≠ 0 → k ≠ 2 → hp.1 142 k = h.1 142 k) ∧ hp.1 142 2 = ((n + k : Nat) : Int) ∧ (∀ j, j < n + k → hp.1 143 j = (fdB B n ar j : Int))) (20) (fun k  hp hb_k iv_k ih_k => ?step_1) (0) (Nat.zero_le _)  _ ?iv0_1) ?ll0_1
    case ll0_1 =>
      repeat' (first | exact True.intro | with_reducible exact rfl | refine And.intro ?_ ?_ | refine vI ?_ | refine vL ?_)
      all_goals first | rfl | omega
    case iv0_1 =>
      exact ⟨rfl, fun o o1 _ => gui_n o1, fun k k1 _ => by rw [gui_s, up1_n k1], by rw [gui_s, up1_n (by decide)]; exact r2, fun j hj => by rw [gui_n (by decide), fdB_lo (by omega)]; exact (r3 j (by omega)).2⟩
    obtain ⟨i1, i2, i3, i4, i5⟩ := iv_k
    refine gj_iload (pc' := 25) dX11_feed_23 rfl rfl ?_
    refine gj_bipush (pc' := 27) dX11_feed_25 rfl (by decide) ?_
    refine gj_icmp_ge (pc' := 30) (tgt := 120) dX11_feed_27 (by decide) rfl (by omega) (fun c27 => ?_) (fun c27 => ?_)
    · refine gj_aload_n (pc' := 121) dX11_feed_120 rfl rfl ?_
      refine gf_X11_59 (pc' := 124) dX11_feed_121 rfl (by first | rfl | assumption) rfl ?_
      rw [i4]
      refine gj_iret rfl dX11_feed_124 ?_
      refine ⟨by rw [if_neg (by omega), show k = 20 by omega], i1, i2, i3, fun q => by omega, fun _ => ⟨by omega, by rw [i4, show k = 20 by omega], fun j hj => ⟨?_, i5 j (by omega)⟩⟩⟩
      by_cases z : j < n
      · rw [fdB_lo z]; exact (r3 j z).1
      · unfold fdB
        rw [if_neg z]
        exact byN_lt _ _
    · refine gj_iload (pc' := 32) dX11_feed_30 rfl rfl ?_
      refine gj_iconst (pc' := 33) dX11_feed_32 rfl ?_
      refine gj_icmp_ge (pc' := 36) (tgt := 40) dX11_feed_33 (by decide) rfl (by omega) (fun c33 => ?_) (fun c33 => ?_)
      · refine gj_iload (pc' := 42) dX11_feed_40 rfl rfl ?_
        refine gj_bipush (pc' := 44) dX11_feed_42 rfl (by decide) ?_
        refine gj_icmp_ge (pc' := 47) (tgt := 51) dX11_feed_44 (by decide) rfl (by omega) (fun c44 => ?_) (fun c44 => ?_)
        · refine gj_iload (pc' := 53) dX11_feed_51 rfl rfl ?_
          refine gj_bipush (pc' := 55) dX11_feed_53 rfl (by decide) ?_
          refine gj_icmp_ge (pc' := 58) (tgt := 62) dX11_feed_55 (by decide) rfl (by omega) (fun c55 => ?_) (fun c55 => ?_)
          · refine gj_iload (pc' := 64) dX11_feed_62 rfl rfl ?_
            refine gj_bipush (pc' := 66) dX11_feed_64 rfl (by decide) ?_
            refine gj_icmp_ge (pc' := 69) (tgt := 74) dX11_feed_66 (by decide) rfl (by omega) (fun c66 => ?_) (fun c66 => ?_)
            · refine gj_iload (pc' := 76) dX11_feed_74 rfl rfl ?_
              refine gj_istore (pc' := 78) dX11_feed_76 rfl (by decide) ?_
              first
              | (exfalso; omega)
              | skip
              refine gj_aload_n (pc' := 79) dX11_feed_78 rfl rfl ?_
              refine gf_X11_7 (pc' := 82) dX11_feed_79 rfl (by first | rfl | assumption) rfl ?_
              refine gj_aload_n (pc' := 83) dX11_feed_82 rfl rfl ?_
              refine gf_X11_59 (pc' := 86) dX11_feed_83 rfl (by first | rfl | assumption) rfl ?_
              rw [i4]
              refine gj_iload (pc' := 88) dX11_feed_86 rfl rfl ?_
              refine gj_bipush (pc' := 90) dX11_feed_88 rfl (by decide) ?_
              refine gj_bipush (pc' := 92) dX11_feed_90 rfl (by decide) ?_
              refine gj_iload (pc' := 94) dX11_feed_92 rfl rfl ?_
              refine gj_iconst (pc' := 95) dX11_feed_94 rfl ?_
              refine gj_irem (pc' := 96) dX11_feed_95 rfl (by omega) (by omega) ?_
              refine gj_imul (pc' := 97) dX11_feed_96 rfl ?_
              refine gj_isub (pc' := 98) dX11_feed_97 rfl ?_
              rw [show (24 : Int) - 8 * ((k : Int) % 4) = 24 - 8 * ((k % 4 : Nat) : Int) by omega]
              refine gj_ishr (pc' := 99) dX11_feed_98 rfl ?_
              refine gj_sipush (pc' := 102) dX11_feed_99 rfl (by decide) ?_
              refine gj_iand (pc' := 103) dX11_feed_102 rfl ?_
              rw [by_m]
              refine gj_iast (pc' := 104) (j := n + k) (by first | rfl | assumption) (by omega) (by omega) (by decide) dX11_feed_103 rfl ?_
              refine gj_aload_n (pc' := 105) dX11_feed_104 rfl rfl ?_
              refine gj_dup (pc' := 106) dX11_feed_105 rfl rfl ?_
              refine gf_X11_59 (pc' := 109) dX11_feed_106 rfl (by first | rfl | assumption) rfl ?_
              rw [gui_n (by decide), i4]
              refine gj_iconst (pc' := 110) dX11_feed_109 rfl ?_
              refine gj_iadd (pc' := 111) dX11_feed_110 rfl ?_
              refine gp_X11_59 (pc' := 114) dX11_feed_111 rfl (by first | rfl | assumption) rfl ?_
              refine gj_iinc (pc' := 117) dX11_feed_114 rfl rfl (by decide) ?_
              refine gj_goto (pc' := 23) dX11_feed_117 (by decide) ?_
              refine gJ_wk (ih_k  _ (by omega) ?iv_2) ?ll_2
              case ll_2 =>
                repeat' (first | exact True.intro | with_reducible exact rfl | refine And.intro ?_ ?_ | refine vI ?_ | refine vL ?_)
                all_goals omega
              have hk4 : k % 4 < 4 := Nat.mod_lt _ (by omega)
              refine ⟨i1, fun o o1 o2 => (gui_n o1).trans ((gui_n o2).trans (i2 o o1 o2)), fun k k1 k2 => ?_, ?_, fun j hj => ?_⟩
              · rw [gui_s, up1_n k2, gui_n (by decide)]; exact i3 k k1 k2
              · rw [gui_s, up1_s]; omega
              · rw [gui_n (by decide), gui_s]
                by_cases z : j = n + k
                · rw [z, up1_s]
                  have e := fdB_hi (B := B) (n := n) (ar := ar) (q := k / 4) hk4
                  rw [show n + 4 * (k / 4) + k % 4 = n + k by omega] at e
                  rw [e]
                  first
                  | (rw [show k / 4 = 0 by omega])
                  | (rw [show k / 4 = 1 by omega])
                  | (rw [show k / 4 = 2 by omega])
                  | (rw [show k / 4 = 3 by omega])
                  | (rw [show k / 4 = 4 by omega])
                · rw [up1_n z]; exact i5 j (by omega)
            · refine gj_iload (pc' := 71) dX11_feed_69 rfl rfl ?_
              refine gj_goto (pc' := 76) dX11_feed_71 (by decide) ?_
              refine gj_istore (pc' := 78) dX11_feed_76 rfl (by decide) ?_
              first
              | (exfalso; omega)
              | skip
              refine gj_aload_n (pc' := 79) dX11_feed_78 rfl rfl ?_
              refine gf_X11_7 (pc' := 82) dX11_feed_79 rfl (by first | rfl | assumption) rfl ?_
              refine gj_aload_n (pc' := 83) dX11_feed_82 rfl rfl ?_
              refine gf_X11_59 (pc' := 86) dX11_feed_83 rfl (by first | rfl | assumption) rfl ?_
              rw [i4]
              refine gj_iload (pc' := 88) dX11_feed_86 rfl rfl ?_
              refine gj_bipush (pc' := 90) dX11_feed_88 rfl (by decide) ?_
              refine gj_bipush (pc' := 92) dX11_feed_90 rfl (by decide) ?_
              refine gj_iload (pc' := 94) dX11_feed_92 rfl rfl ?_
              refine gj_iconst (pc' := 95) dX11_feed_94 rfl ?_
              refine gj_irem (pc' := 96) dX11_feed_95 rfl (by omega) (by omega) ?_
              refine gj_imul (pc' := 97) dX11_feed_96 rfl ?_
              refine gj_isub (pc' := 98) dX11_feed_97 rfl ?_
              rw [show (24 : Int) - 8 * ((k : Int) % 4) = 24 - 8 * ((k % 4 : Nat) : Int) by omega]
              refine gj_ishr (pc' := 99) dX11_feed_98 rfl ?_
              refine gj_sipush (pc' := 102) dX11_feed_99 rfl (by decide) ?_
              refine gj_iand (pc' := 103) dX11_feed_102 rfl ?_
              rw [by_m]
              refine gj_iast (pc' := 104) (j := n + k) (by first | rfl | assumption) (by omega) (by omega) (by decide) dX11_feed_103 rfl ?_
              refine gj_aload_n (pc' := 105) dX11_feed_104 rfl rfl ?_
              refine gj_dup (pc' := 106) dX11_feed_105 rfl rfl ?_
              refine gf_X11_59 (pc' := 109) dX11_feed_106 rfl (by first | rfl | assumption) rfl ?_
              rw [gui_n (by decide), i4]
              refine gj_iconst (pc' := 110) dX11_feed_109 rfl ?_
              refine gj_iadd (pc' := 111) dX11_feed_110 rfl ?_
              refine gp_X11_59 (pc' := 114) dX11_feed_111 rfl (by first | rfl | assumption) rfl ?_
              refine gj_iinc (pc' := 117) dX11_feed_114 rfl rfl (by decide) ?_
              refine gj_goto (pc' := 23) dX11_feed_117 (by decide) ?_
              refine gJ_wk (ih_k  _ (by omega) ?iv_3) ?ll_3
              case ll_3 =>
                repeat' (first | exact True.intro | with_reducible exact rfl | refine And.intro ?_ ?_ | refine vI ?_ | refine vL ?_)
                all_goals omega
              have hk4 : k % 4 < 4 := Nat.mod_lt _ (by omega)
              refine ⟨i1, fun o o1 o2 => (gui_n o1).trans ((gui_n o2).trans (i2 o o1 o2)), fun k k1 k2 => ?_, ?_, fun j hj => ?_⟩
              · rw [gui_s, up1_n k2, gui_n (by decide)]; exact i3 k k1 k2
              · rw [gui_s, up1_s]; omega
              · rw [gui_n (by decide), gui_s]
                by_cases z : j = n + k
                · rw [z, up1_s]
                  have e := fdB_hi (B := B) (n := n) (ar := ar) (q := k / 4) hk4
                  rw [show n + 4 * (k / 4) + k % 4 = n + k by omega] at e
                  rw [e]
                  first
                  | (rw [show k / 4 = 0 by omega])
                  | (rw [show k / 4 = 1 by omega])
                  | (rw [show k / 4 = 2 by omega])
                  | (rw [show k / 4 = 3 by omega])
                  | (rw [show k / 4 = 4 by omega])
                · rw [up1_n z]; exact i5 j (by omega)
          · refine gj_iload_n (pc' := 59) dX11_feed_58 rfl rfl ?_
            refine gj_goto (pc' := 76) dX11_feed_59 (by decide) ?_
            refine gj_istore (pc' := 78) dX11_feed_76 rfl (by decide) ?_
            first
            | (exfalso; omega)
            | skip
            refine gj_aload_n (pc' := 79) dX11_feed_78 rfl rfl ?_
            refine gf_X11_7 (pc' := 82) dX11_feed_79 rfl (by first | rfl | assumption) rfl ?_
            refine gj_aload_n (pc' := 83) dX11_feed_82 rfl rfl ?_
            refine gf_X11_59 (pc' := 86) dX11_feed_83 rfl (by first | rfl | assumption) rfl ?_
            rw [i4]
            refine gj_iload (pc' := 88) dX11_feed_86 rfl rfl ?_
            refine gj_bipush (pc' := 90) dX11_feed_88 rfl (by decide) ?_
            refine gj_bipush (pc' := 92) dX11_feed_90 rfl (by decide) ?_
            refine gj_iload (pc' := 94) dX11_feed_92 rfl rfl ?_
            refine gj_iconst (pc' := 95) dX11_feed_94 rfl ?_
            refine gj_irem (pc' := 96) dX11_feed_95 rfl (by omega) (by omega) ?_
            refine gj_imul (pc' := 97) dX11_feed_96 rfl ?_
            refine gj_isub (pc' := 98) dX11_feed_97 rfl ?_
            rw [show (24 : Int) - 8 * ((k : Int) % 4) = 24 - 8 * ((k % 4 : Nat) : Int) by omega]
            refine gj_ishr (pc' := 99) dX11_feed_98 rfl ?_
            refine gj_sipush (pc' := 102) dX11_feed_99 rfl (by decide) ?_
            refine gj_iand (pc' := 103) dX11_feed_102 rfl ?_
            rw [by_m]
            refine gj_iast (pc' := 104) (j := n + k) (by first | rfl | assumption) (by omega) (by omega) (by decide) dX11_feed_103 rfl ?_
            refine gj_aload_n (pc' := 105) dX11_feed_104 rfl rfl ?_
            refine gj_dup (pc' := 106) dX11_feed_105 rfl rfl ?_
            refine gf_X11_59 (pc' := 109) dX11_feed_106 rfl (by first | rfl | assumption) rfl ?_
            rw [gui_n (by decide), i4]
            refine gj_iconst (pc' := 110) dX11_feed_109 rfl ?_
            refine gj_iadd (pc' := 111) dX11_feed_110 rfl ?_
            refine gp_X11_59 (pc' := 114) dX11_feed_111 rfl (by first | rfl | assumption) rfl ?_
            refine gj_iinc (pc' := 117) dX11_feed_114 rfl rfl (by decide) ?_
            refine gj_goto (pc' := 23) dX11_feed_117 (by decide) ?_
            refine gJ_wk (ih_k  _ (by omega) ?iv_4) ?ll_4
            case ll_4 =>
              repeat' (first | exact True.intro | with_reducible exact rfl | refine And.intro ?_ ?_ | refine vI ?_ | refine vL ?_)
              all_goals omega
            have hk4 : k % 4 < 4 := Nat.mod_lt _ (by omega)
            refine ⟨i1, fun o o1 o2 => (gui_n o1).trans ((gui_n o2).trans (i2 o o1 o2)), fun k k1 k2 => ?_, ?_, fun j hj => ?_⟩
            · rw [gui_s, up1_n k2, gui_n (by decide)]; exact i3 k k1 k2
            · rw [gui_s, up1_s]; omega
            · rw [gui_n (by decide), gui_s]
              by_cases z : j = n + k
              · rw [z, up1_s]
                have e := fdB_hi (B := B) (n := n) (ar := ar) (q := k / 4) hk4
                rw [show n + 4 * (k / 4) + k % 4 = n + k by omega] at e
                rw [e]
                first
                | (rw [show k / 4 = 0 by omega])
                | (rw [show k / 4 = 1 by omega])
                | (rw [show k / 4 = 2 by omega])
                | (rw [show k / 4 = 3 by omega])
                | (rw [show k / 4 = 4 by omega])
              · rw [up1_n z]; exact i5 j (by omega)
        · refine gj_iload_n (pc' := 48) dX11_feed_47 rfl rfl ?_
          refine gj_goto (pc' := 76) dX11_feed_48 (by decide) ?_
          refine gj_istore (pc' := 78) dX11_feed_76 rfl (by decide) ?_
          first
          | (exfalso; omega)
          | skip
          refine gj_aload_n (pc' := 79) dX11_feed_78 rfl rfl ?_
          refine gf_X11_7 (pc' := 82) dX11_feed_79 rfl (by first | rfl | assumption) rfl ?_
          refine gj_aload_n (pc' := 83) dX11_feed_82 rfl rfl ?_
          refine gf_X11_59 (pc' := 86) dX11_feed_83 rfl (by first | rfl | assumption) rfl ?_
          rw [i4]
          refine gj_iload (pc' := 88) dX11_feed_86 rfl rfl ?_
          refine gj_bipush (pc' := 90) dX11_feed_88 rfl (by decide) ?_
          refine gj_bipush (pc' := 92) dX11_feed_90 rfl (by decide) ?_
          refine gj_iload (pc' := 94) dX11_feed_92 rfl rfl ?_
          refine gj_iconst (pc' := 95) dX11_feed_94 rfl ?_
          refine gj_irem (pc' := 96) dX11_feed_95 rfl (by omega) (by omega) ?_
          refine gj_imul (pc' := 97) dX11_feed_96 rfl ?_
          refine gj_isub (pc' := 98) dX11_feed_97 rfl ?_
          rw [show (24 : Int) - 8 * ((k : Int) % 4) = 24 - 8 * ((k % 4 : Nat) : Int) by omega]
          refine gj_ishr (pc' := 99) dX11_feed_98 rfl ?_
          refine gj_sipush (pc' := 102) dX11_feed_99 rfl (by decide) ?_
          refine gj_iand (pc' := 103) dX11_feed_102 rfl ?_
          rw [by_m]
          refine gj_iast (pc' := 104) (j := n + k) (by first | rfl | assumption) (by omega) (by omega) (by decide) dX11_feed_103 rfl ?_
          refine gj_aload_n (pc' := 105) dX11_feed_104 rfl rfl ?_
          refine gj_dup (pc' := 106) dX11_feed_105 rfl rfl ?_
          refine gf_X11_59 (pc' := 109) dX11_feed_106 rfl (by first | rfl | assumption) rfl ?_
          rw [gui_n (by decide), i4]
          refine gj_iconst (pc' := 110) dX11_feed_109 rfl ?_
          refine gj_iadd (pc' := 111) dX11_feed_110 rfl ?_
          refine gp_X11_59 (pc' := 114) dX11_feed_111 rfl (by first | rfl | assumption) rfl ?_
          refine gj_iinc (pc' := 117) dX11_feed_114 rfl rfl (by decide) ?_
          refine gj_goto (pc' := 23) dX11_feed_117 (by decide) ?_
          refine gJ_wk (ih_k  _ (by omega) ?iv_5) ?ll_5
          case ll_5 =>
            repeat' (first | exact True.intro | with_reducible exact rfl | refine And.intro ?_ ?_ | refine vI ?_ | refine vL ?_)
            all_goals omega
          have hk4 : k % 4 < 4 := Nat.mod_lt _ (by omega)
          refine ⟨i1, fun o o1 o2 => (gui_n o1).trans ((gui_n o2).trans (i2 o o1 o2)), fun k k1 k2 => ?_, ?_, fun j hj => ?_⟩
          · rw [gui_s, up1_n k2, gui_n (by decide)]; exact i3 k k1 k2
          · rw [gui_s, up1_s]; omega
          · rw [gui_n (by decide), gui_s]
            by_cases z : j = n + k
            · rw [z, up1_s]
              have e := fdB_hi (B := B) (n := n) (ar := ar) (q := k / 4) hk4
              rw [show n + 4 * (k / 4) + k % 4 = n + k by omega] at e
              rw [e]
              first
              | (rw [show k / 4 = 0 by omega])
              | (rw [show k / 4 = 1 by omega])
              | (rw [show k / 4 = 2 by omega])
              | (rw [show k / 4 = 3 by omega])
              | (rw [show k / 4 = 4 by omega])
            · rw [up1_n z]; exact i5 j (by omega)
      · refine gj_iload_n (pc' := 37) dX11_feed_36 rfl rfl ?_
        refine gj_goto (pc' := 76) dX11_feed_37 (by decide) ?_
        refine gj_istore (pc' := 78) dX11_feed_76 rfl (by decide) ?_
        first
        | (exfalso; omega)
        | skip
        refine gj_aload_n (pc' := 79) dX11_feed_78 rfl rfl ?_
        refine gf_X11_7 (pc' := 82) dX11_feed_79 rfl (by first | rfl | assumption) rfl ?_
        refine gj_aload_n (pc' := 83) dX11_feed_82 rfl rfl ?_
        refine gf_X11_59 (pc' := 86) dX11_feed_83 rfl (by first | rfl | assumption) rfl ?_
        rw [i4]
        refine gj_iload (pc' := 88) dX11_feed_86 rfl rfl ?_
        refine gj_bipush (pc' := 90) dX11_feed_88 rfl (by decide) ?_
        refine gj_bipush (pc' := 92) dX11_feed_90 rfl (by decide) ?_
        refine gj_iload (pc' := 94) dX11_feed_92 rfl rfl ?_
        refine gj_iconst (pc' := 95) dX11_feed_94 rfl ?_
        refine gj_irem (pc' := 96) dX11_feed_95 rfl (by omega) (by omega) ?_
        refine gj_imul (pc' := 97) dX11_feed_96 rfl ?_
        refine gj_isub (pc' := 98) dX11_feed_97 rfl ?_
        rw [show (24 : Int) - 8 * ((k : Int) % 4) = 24 - 8 * ((k % 4 : Nat) : Int) by omega]
        refine gj_ishr (pc' := 99) dX11_feed_98 rfl ?_
        refine gj_sipush (pc' := 102) dX11_feed_99 rfl (by decide) ?_
        refine gj_iand (pc' := 103) dX11_feed_102 rfl ?_
        rw [by_m]
        refine gj_iast (pc' := 104) (j := n + k) (by first | rfl | assumption) (by omega) (by omega) (by decide) dX11_feed_103 rfl ?_
        refine gj_aload_n (pc' := 105) dX11_feed_104 rfl rfl ?_
        refine gj_dup (pc' := 106) dX11_feed_105 rfl rfl ?_
        refine gf_X11_59 (pc' := 109) dX11_feed_106 rfl (by first | rfl | assumption) rfl ?_
        rw [gui_n (by decide), i4]
        refine gj_iconst (pc' := 110) dX11_feed_109 rfl ?_
        refine gj_iadd (pc' := 111) dX11_feed_110 rfl ?_
        refine gp_X11_59 (pc' := 114) dX11_feed_111 rfl (by first | rfl | assumption) rfl ?_
        refine gj_iinc (pc' := 117) dX11_feed_114 rfl rfl (by decide) ?_
        refine gj_goto (pc' := 23) dX11_feed_117 (by decide) ?_
        refine gJ_wk (ih_k  _ (by omega) ?iv_6) ?ll_6
        case ll_6 =>
          repeat' (first | exact True.intro | with_reducible exact rfl | refine And.intro ?_ ?_ | refine vI ?_ | refine vL ?_)
          all_goals omega
        have hk4 : k % 4 < 4 := Nat.mod_lt _ (by omega)
        refine ⟨i1, fun o o1 o2 => (gui_n o1).trans ((gui_n o2).trans (i2 o o1 o2)), fun k k1 k2 => ?_, ?_, fun j hj => ?_⟩
        · rw [gui_s, up1_n k2, gui_n (by decide)]; exact i3 k k1 k2
        · rw [gui_s, up1_s]; omega
        · rw [gui_n (by decide), gui_s]
          by_cases z : j = n + k
          · rw [z, up1_s]
            have e := fdB_hi (B := B) (n := n) (ar := ar) (q := k / 4) hk4
            rw [show n + 4 * (k / 4) + k % 4 = n + k by omega] at e
            rw [e]
            first
            | (rw [show k / 4 = 0 by omega])
            | (rw [show k / 4 = 1 by omega])
            | (rw [show k / 4 = 2 by omega])
            | (rw [show k / 4 = 3 by omega])
            | (rw [show k / 4 = 4 by omega])
          · rw [up1_n z]; exact i5 j (by omega)
  · refine gj_iconst (pc' := 19) dX11_feed_18 rfl ?_
    refine gj_iret rfl dX11_feed_19 ?_
    exact ⟨by rw [if_pos (by omega)], rfl, fun o o1 _ => gui_n o1, fun k k1 _ => by rw [gui_s, up1_n k1], fun _ => ⟨r1, by rw [gui_s, up1_n (by decide)]; exact r2, fun j hj => by rw [gui_n (by decide)]; exact r3 j hj⟩, fun q => by omega⟩
