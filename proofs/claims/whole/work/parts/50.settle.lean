/-! strays: the class settles a town -/
def StrA (h : gH) (t : Nat) (T : Nat → Nat) : Prop := h.1 (t + 10) 0 = (T 5 : Int) ∧ h.1 (t + 10) 4 = (T 6 : Int) ∧ (∀ s, s < T 5 → h.1 (t + 11) s = (T (54 + 2 * s) : Int) ∧ h.1 (t + 12) s = (T (55 + 2 * s) : Int)) ∧ (∀ k, k < T 6 → h.1 (t + 17) k = (T (60 + 3 * k) : Int) ∧ h.1 (t + 18) k = (T (61 + 3 * k) : Int) ∧ h.1 (t + 19) k = (T (62 + 3 * k) : Int))
def StrS (h : gH) (t : Nat) (T : Nat → Nat) : Prop := ∀ s, s < T 5 → ∀ k, k < T 3 → h.1 (t + 14 + s) k = (stT T s k : Int)
def StrK (h : gH) (t : Nat) (T : Nat → Nat) : Prop := ∀ k, k < T 6 → h.1 (t + 20) k = (knN T k : Int)
def StrR (h : gH) (t : Nat) (T : Nat → Nat) (n : Nat) : Prop := h.1 (t + 10) 9 = (cnt T n : Int) ∧ ∀ c, c < n → okF T c = true → h.1 (t + 21) (cnt T c) = (c : Int)
theorem StrA.to {h h' : gH} {t : Nat} {T : Nat → Nat} (a : StrA h t T) (e0 : h'.1 (t + 10) 0 = h.1 (t + 10) 0) (e4 : h'.1 (t + 10) 4 = h.1 (t + 10) 4) (e1 : h'.1 (t + 11) = h.1 (t + 11)) (e2 : h'.1 (t + 12) = h.1 (t + 12)) (e7 : h'.1 (t + 17) = h.1 (t + 17)) (e8 : h'.1 (t + 18) = h.1 (t + 18)) (e9 : h'.1 (t + 19) = h.1 (t + 19)) : StrA h' t T := by
  obtain ⟨a0, a1, a2, a3⟩ := a
  exact ⟨e0.trans a0, e4.trans a1, fun s hs => by rw [e1, e2]; exact a2 s hs, fun k hk => by rw [e7, e8, e9]; exact a3 k hk⟩
theorem s_guess {h : gH} {t c s n : Nat} (ht : isT t) (hn : h.1 (t + 10) 0 = (n : Int)) (hn3 : n ≤ 3) (hs : s < n) (hc : c < 600) : gSp 1 yX7_guess cX7_guess 3 (some .int) [.ref (t + 10), .int (zI (c : Int)), .int (zI (s : Int))] h (gR (.int (zI (gDg n c s : Nat))) h) := by
  obtain ⟨s0, -⟩ := shS ht
  have hd := Nat.div_le_self c (2 ^ (3 * (n - 1 - s)))
  refine gSp_of (by decide +kernel) (Nat.le_of_ble_eq_true rfl) ?_
  show gJ RX7 cX7_guess 3 (some .int) _ 0 [some (.ref (t + 10)), some (.int (zI (c : Int))), some (.int (zI (s : Int)))] [] _ _
  refine gj_iload_n (pc' := 1) dX7_guess_0 rfl rfl ?_
  refine gj_iconst (pc' := 2) dX7_guess_1 rfl ?_
  refine gj_aload_n (pc' := 3) dX7_guess_2 rfl rfl ?_
  refine gf_X7_43 (pc' := 6) dX7_guess_3 rfl (by first | rfl | assumption) rfl ?_
  rw [hn]
  refine gj_iconst (pc' := 7) dX7_guess_6 rfl ?_
  refine gj_isub (pc' := 8) dX7_guess_7 rfl ?_
  refine gj_iload_n (pc' := 9) dX7_guess_8 rfl rfl ?_
  refine gj_isub (pc' := 10) dX7_guess_9 rfl ?_
  refine gj_imul (pc' := 11) dX7_guess_10 rfl ?_
  rw [show (3 : Int) * ((n : Int) - 1 - (s : Int)) = ((3 * (n - 1 - s) : Nat) : Int) by omega]
  refine gj_ishr (pc' := 12) dX7_guess_11 rfl ?_
  rw [bt_shr (by omega) (by omega)]
  refine gj_bipush (pc' := 14) dX7_guess_12 rfl (by decide) ?_
  refine gj_iand (pc' := 15) dX7_guess_14 rfl ?_
  rw [show (7 : Int) = ((7 : Nat) : Int) from rfl, bt_and (by omega) (by omega)]
  refine gj_iret rfl dX7_guess_15 ?_
  exact gR_i (by unfold gDg; rw [show (7 : Nat) = 2 ^ 3 - 1 from rfl, Nat.and_two_pow_sub_one_eq_mod])
theorem s_isRow {h : gH} {t c : Nat} {T : Nat → Nat} (ht : isT t) (hT : TV T) (hA : StrA h t T) (hc : c < 600) : gSp 2 yX7_isRow cX7_isRow 5 (some .boolean) [.ref (t + 10), .int (zI (c : Int)), .int (zI (T 3 : Nat))] h (gR (.int (zI (bI (okR T c)))) h) := by
  obtain ⟨s0, s1, s2, s3, s4, -⟩ := shS ht
  have h3 := hT.2.2.2.1
  have h5 : T 5 ≤ 3 := hT.2.2.2.2.2.1
  refine gSp_of (by decide +kernel) (Nat.le_of_ble_eq_true rfl) ?_
  show gJ RX7 cX7_isRow 5 (some .boolean) _ 0 [some (.ref (t + 10)), some (.int (zI (c : Int))), some (.int (zI (T 3 : Nat))), none, none] [] _ _
  refine gj_iconst (pc' := 1) dX7_isRow_0 rfl ?_
  refine gj_istore_n (pc' := 2) dX7_isRow_1 rfl (by decide) ?_
  refine gJ_wk (gJ_fH0 (L := fun s  => [some (.ref (t + 10)), some (.int (zI (c : Int))), some (.int (zI (T 3 : Nat))), some (.int (zI (s : Int))), none]) (I := fun s  hp => hp = h ∧ anyN (okB T c) s = false) (T 5) (fun s  hp hb_s iv_s ih_s => ?step_1) (0) (Nat.zero_le _)  _ ?iv0_1) ?ll0_1
  case ll0_1 =>
    repeat' (first | exact True.intro | with_reducible exact rfl | refine And.intro ?_ ?_ | refine vI ?_ | refine vL ?_)
    all_goals first | rfl | omega
  case iv0_1 =>
    exact ⟨rfl, rfl⟩
  obtain ⟨rfl, i2⟩ := iv_s
  have es : anyN (okB T c) (s + 1) = (anyN (okB T c) s || okB T c s) := rfl
  have hg := gDg_lt (T 5) c s
  have h10 := fun q : s < T 5 => hT.2.2.2.2.2.2.2.2.2.1 s q
  refine gj_iload_n (pc' := 3) dX7_isRow_2 rfl rfl ?_
  refine gj_aload_n (pc' := 4) dX7_isRow_3 rfl rfl ?_
  refine gf_X7_43 (pc' := 7) dX7_isRow_4 rfl (by first | rfl | assumption) rfl ?_
  rw [hA.1]
  refine gj_icmp_ge (pc' := 10) (tgt := 43) dX7_isRow_7 (by decide) rfl (by omega) (fun c7 => ?_) (fun c7 => ?_)
  · refine gj_iconst (pc' := 44) dX7_isRow_43 rfl ?_
    refine gj_zret rfl (by first | rfl | exact gnZ _ | assumption) dX7_isRow_44 ?_
    exact gR_t (by unfold okR; rw [show T 5 = s by omega, i2]; rfl)
  · refine gj_aload_n (pc' := 11) dX7_isRow_10 rfl rfl ?_
    refine gj_iload_n (pc' := 12) dX7_isRow_11 rfl rfl ?_
    refine gj_iload_n (pc' := 13) dX7_isRow_12 rfl rfl ?_
    refine gr_X7_71 (pc' := 16) dX7_isRow_13 rfl (s_guess ht hA.1 h5 (by omega) hc) rfl (by first | rfl | assumption) (by decide) rfl (Nat.le_of_ble_eq_true rfl) ?_
    refine gj_istore (pc' := 18) dX7_isRow_16 rfl (by decide) ?_
    refine gj_iload (pc' := 20) dX7_isRow_18 rfl rfl ?_
    refine gj_iload_n (pc' := 21) dX7_isRow_20 rfl rfl ?_
    refine gj_icmp_ge (pc' := 24) (tgt := 35) dX7_isRow_21 (by decide) rfl (by omega) (fun c21 => ?_) (fun c21 => ?_)
    · refine gj_iconst (pc' := 36) dX7_isRow_35 rfl ?_
      refine gj_zret rfl (by first | rfl | exact gnZ _ | assumption) dX7_isRow_36 ?_
      have hit : okB T c s = true := by
        unfold okB
        rw [Bool.or_eq_true, decide_eq_true_eq, beq_iff_eq]
        omega
      exact gR_f (by unfold okR; rw [anyN_t.mpr ⟨s, by omega, hit⟩]; rfl)
    · refine gj_iload (pc' := 26) dX7_isRow_24 rfl rfl ?_
      refine gj_aload_n (pc' := 27) dX7_isRow_26 rfl rfl ?_
      refine gf_X7_11 (pc' := 30) dX7_isRow_27 rfl (by first | rfl | assumption) rfl ?_
      refine gj_iload_n (pc' := 31) dX7_isRow_30 rfl rfl ?_
      refine gj_iald (pc' := 32) (by first | rfl | assumption) rfl (by omega) (by decide) dX7_isRow_31 rfl ?_
      rw [(hA.2.2.1 s (by omega)).1]
      refine gj_icmp_ne (pc' := 35) (tgt := 37) dX7_isRow_32 (by decide) rfl (by have := h10 (by omega); omega) (fun c32 => ?_) (fun c32 => ?_)
      · refine gj_iinc (pc' := 40) dX7_isRow_37 rfl rfl (by decide) ?_
        refine gj_goto (pc' := 2) dX7_isRow_40 (by decide) ?_
        refine gJ_wk (ih_s  _ (by omega) ?iv_2) ?ll_2
        case ll_2 =>
          repeat' (first | exact True.intro | with_reducible exact rfl | refine And.intro ?_ ?_ | refine vI ?_ | refine vL ?_)
          all_goals omega
        refine ⟨rfl, ?_⟩
        rw [es, i2, Bool.false_or]
        unfold okB
        rw [Bool.or_eq_false_iff, decide_eq_false_iff_not, beq_eq_false_iff_ne]
        omega
      · refine gj_iconst (pc' := 36) dX7_isRow_35 rfl ?_
        refine gj_zret rfl (by first | rfl | exact gnZ _ | assumption) dX7_isRow_36 ?_
        have hit : okB T c s = true := by
          unfold okB
          rw [Bool.or_eq_true, decide_eq_true_eq, beq_iff_eq]
          omega
        exact gR_f (by unfold okR; rw [anyN_t.mpr ⟨s, by omega, hit⟩]; rfl)
theorem s_stray {h : gH} {t c k d : Nat} {T : Nat → Nat} (ht : isT t) (hT : TV T) (hA : StrA h t T) (hS : StrS h t T) (hc : c < 600) (hk : k < T 3) (hd : d ≤ 2000) : gSp 2 yX7_sitting cX7_sitting 6 (some .int) [.ref (t + 10), .int (zI (c : Int)), .int (zI (k : Int)), .int (zI (d : Int))] h (gR (.int (zI (stN T c k d : Nat))) h) := by
  obtain ⟨s0, s1, s2, s3, s4, -⟩ := shS ht
  have h3 := hT.2.2.2.1
  have h5 : T 5 ≤ 3 := hT.2.2.2.2.2.1
  refine gSp_of (by decide +kernel) (Nat.le_of_ble_eq_true rfl) ?_
  show gJ RX7 cX7_sitting 6 (some .int) _ 0 [some (.ref (t + 10)), some (.int (zI (c : Int))), some (.int (zI (k : Int))), some (.int (zI (d : Int))), none, none] [] _ _
  refine gj_iconst (pc' := 1) dX7_sitting_0 rfl ?_
  refine gj_istore (pc' := 3) dX7_sitting_1 rfl (by decide) ?_
  refine gj_iconst (pc' := 4) dX7_sitting_3 rfl ?_
  refine gj_istore (pc' := 6) dX7_sitting_4 rfl (by decide) ?_
  refine gJ_wk (gJ_for (L := fun s => [some (.ref (t + 10)), some (.int (zI (c : Int))), some (.int (zI (k : Int))), some (.int (zI (d : Int))), some (.int (zI (sN (fun s => (stO T c k d s).toNat) s : Nat))), some (.int (zI (s : Int)))]) (T 5) (fun s hb_s ih_s => ?_) (0) (Nat.zero_le _)) ?_
  · have es : sN (fun s => (stO T c k d s).toNat) (s + 1) = sN (fun s => (stO T c k d s).toNat) s + (stO T c k d s).toNat := rfl
    have hg := gDg_lt (T 5) c s
    have bt1 : true.toNat = 1 := rfl
    have bt0 : false.toNat = 0 := rfl
    refine gj_iload (pc' := 8) dX7_sitting_6 rfl rfl ?_
    refine gj_aload_n (pc' := 9) dX7_sitting_8 rfl rfl ?_
    refine gf_X7_43 (pc' := 12) dX7_sitting_9 rfl (by first | rfl | assumption) rfl ?_
    rw [hA.1]
    refine gj_icmp_ge (pc' := 15) (tgt := 48) dX7_sitting_12 (by decide) rfl (by omega) (fun c12 => ?_) (fun c12 => ?_)
    · refine gj_iload (pc' := 50) dX7_sitting_48 rfl rfl ?_
      refine gj_iret rfl dX7_sitting_50 ?_
      exact gR_i (by rw [show s = T 5 by omega]; rfl)
    · refine gj_aload_n (pc' := 16) dX7_sitting_15 rfl rfl ?_
      refine gj_iload_n (pc' := 17) dX7_sitting_16 rfl rfl ?_
      refine gj_iload (pc' := 19) dX7_sitting_17 rfl rfl ?_
      refine gr_X7_71 (pc' := 22) dX7_sitting_19 rfl (s_guess ht hA.1 h5 (by omega) hc) rfl (by first | rfl | assumption) (by decide) rfl (Nat.le_of_ble_eq_true rfl) ?_
      refine gj_iload_n (pc' := 23) dX7_sitting_22 rfl rfl ?_
      refine gj_icmp_ne (pc' := 26) (tgt := 42) dX7_sitting_23 (by decide) rfl (by omega) (fun c23 => ?_) (fun c23 => ?_)
      · refine gj_iinc (pc' := 45) dX7_sitting_42 rfl rfl (by decide) ?_
        refine gj_goto (pc' := 6) dX7_sitting_45 (by decide) ?_
        refine gJ_wk (ih_s (by omega)) ?_
        repeat' (first | exact True.intro | with_reducible exact rfl | refine And.intro ?_ ?_ | refine vI ?_ | refine vL ?_)
        all_goals first
        | omega
        | (have e : stO T c k d s = true := by
             unfold stO
             rw [Bool.and_eq_true, beq_iff_eq, decide_eq_true_eq]
             omega
           rw [es, e]
           omega)
        | (have e : stO T c k d s = false := by
             unfold stO
             rw [Bool.and_eq_false_iff, beq_eq_false_iff_ne, decide_eq_false_iff_not]
             omega
           rw [es, e]
           omega)
      · refine gj_aload_n (pc' := 27) dX7_sitting_26 rfl rfl ?_
        refine gf_X7_22 (pc' := 30) dX7_sitting_27 rfl (by first | rfl | assumption) rfl ?_
        have s4s := s4 s (by omega)
        have hst := stT_le hT (s := s) (h := k) (by omega) hk
        refine gj_iload (pc' := 32) dX7_sitting_30 rfl rfl ?_
        refine gj_aald2 (pc' := 33) (j := s) (by first | rfl | assumption) (by omega) (by omega) (by decide) dX7_sitting_32 rfl ?_
        rw [Nat.one_mul]
        refine gj_iload_n (pc' := 34) dX7_sitting_33 rfl rfl ?_
        refine gj_iald (pc' := 35) (by first | rfl | assumption) rfl (by omega) (by decide) dX7_sitting_34 rfl ?_
        rw [hS s (by omega) k hk]
        refine gj_iload_n (pc' := 36) dX7_sitting_35 rfl rfl ?_
        refine gj_icmp_gt (pc' := 39) (tgt := 42) dX7_sitting_36 (by decide) rfl (by omega) (fun c36 => ?_) (fun c36 => ?_)
        · refine gj_iinc (pc' := 45) dX7_sitting_42 rfl rfl (by decide) ?_
          refine gj_goto (pc' := 6) dX7_sitting_45 (by decide) ?_
          refine gJ_wk (ih_s (by omega)) ?_
          repeat' (first | exact True.intro | with_reducible exact rfl | refine And.intro ?_ ?_ | refine vI ?_ | refine vL ?_)
          all_goals first
          | omega
          | (have e : stO T c k d s = true := by
               unfold stO
               rw [Bool.and_eq_true, beq_iff_eq, decide_eq_true_eq]
               omega
             rw [es, e]
             omega)
          | (have e : stO T c k d s = false := by
               unfold stO
               rw [Bool.and_eq_false_iff, beq_eq_false_iff_ne, decide_eq_false_iff_not]
               omega
             rw [es, e]
             omega)
        · refine gj_iinc (pc' := 42) dX7_sitting_39 rfl rfl (by decide) ?_
          refine gj_iinc (pc' := 45) dX7_sitting_42 rfl rfl (by decide) ?_
          refine gj_goto (pc' := 6) dX7_sitting_45 (by decide) ?_
          refine gJ_wk (ih_s (by omega)) ?_
          repeat' (first | exact True.intro | with_reducible exact rfl | refine And.intro ?_ ?_ | refine vI ?_ | refine vL ?_)
          all_goals first
          | omega
          | (have e : stO T c k d s = true := by
               unfold stO
               rw [Bool.and_eq_true, beq_iff_eq, decide_eq_true_eq]
               omega
             rw [es, e]
             omega)
          | (have e : stO T c k d s = false := by
               unfold stO
               rw [Bool.and_eq_false_iff, beq_eq_false_iff_ne, decide_eq_false_iff_not]
               omega
             rw [es, e]
             omega)
  · repeat' (first | exact True.intro | with_reducible exact rfl | refine And.intro ?_ ?_ | refine vI ?_ | refine vL ?_)
    all_goals first | rfl | omega
theorem s_fitsSeen {h : gH} {t c : Nat} {T : Nat → Nat} (ht : isT t) (hT : TV T) (hA : StrA h t T) (hS : StrS h t T) (hK : StrK h t T) (hc : c < 600) : gSp 3 yX7_fitsSeen cX7_fitsSeen 4 (some .boolean) [.ref (t + 10), .int (zI (c : Int))] h (gR (.int (zI (bI (okS T c)))) h) := by
  obtain ⟨s0, s1, s2, s3, s4, s5, s6, s7, s8, -⟩ := shS ht
  have h3 := hT.2.2.2.1
  have h6 : T 6 ≤ 5 := hT.2.2.2.2.2.2.1
  refine gSp_of (by decide +kernel) (Nat.le_of_ble_eq_true rfl) ?_
  show gJ RX7 cX7_fitsSeen 4 (some .boolean) _ 0 [some (.ref (t + 10)), some (.int (zI (c : Int))), none, none] [] _ _
  refine gj_iconst (pc' := 1) dX7_fitsSeen_0 rfl ?_
  refine gj_istore_n (pc' := 2) dX7_fitsSeen_1 rfl (by decide) ?_
  refine gJ_wk (gJ_fH0 (L := fun k  => [some (.ref (t + 10)), some (.int (zI (c : Int))), some (.int (zI (k : Int))), none]) (I := fun k  hp => hp = h ∧ anyN (okD T c) k = false) (T 6) (fun k  hp hb_k iv_k ih_k => ?step_1) (0) (Nat.zero_le _)  _ ?iv0_1) ?ll0_1
  case ll0_1 =>
    repeat' (first | exact True.intro | with_reducible exact rfl | refine And.intro ?_ ?_ | refine vI ?_ | refine vL ?_)
    all_goals first | rfl | omega
  case iv0_1 =>
    exact ⟨rfl, rfl⟩
  obtain ⟨rfl, i2⟩ := iv_k
  have es : anyN (okD T c) (k + 1) = (anyN (okD T c) k || okD T c k) := rfl
  have h11 := fun q : k < T 6 => hT.2.2.2.2.2.2.2.2.2.2 k q
  have hkn := knN_le hT k
  have hst := stN_le hT c (T (60 + 3 * k)) (T (61 + 3 * k))
  refine gj_iload_n (pc' := 3) dX7_fitsSeen_2 rfl rfl ?_
  refine gj_aload_n (pc' := 4) dX7_fitsSeen_3 rfl rfl ?_
  refine gf_X7_47 (pc' := 7) dX7_fitsSeen_4 rfl (by first | rfl | assumption) rfl ?_
  rw [hA.2.1]
  refine gj_icmp_ge (pc' := 10) (tgt := 53) dX7_fitsSeen_7 (by decide) rfl (by omega) (fun c7 => ?_) (fun c7 => ?_)
  · refine gj_iconst (pc' := 54) dX7_fitsSeen_53 rfl ?_
    refine gj_zret rfl (by first | rfl | exact gnZ _ | assumption) dX7_fitsSeen_54 ?_
    exact gR_t (by unfold okS; rw [show T 6 = k by omega, i2]; rfl)
  · refine gj_aload_n (pc' := 11) dX7_fitsSeen_10 rfl rfl ?_
    refine gj_iload_n (pc' := 12) dX7_fitsSeen_11 rfl rfl ?_
    refine gj_aload_n (pc' := 13) dX7_fitsSeen_12 rfl rfl ?_
    refine gf_X7_25 (pc' := 16) dX7_fitsSeen_13 rfl (by first | rfl | assumption) rfl ?_
    refine gj_iload_n (pc' := 17) dX7_fitsSeen_16 rfl rfl ?_
    refine gj_iald (pc' := 18) (by first | rfl | assumption) rfl (by omega) (by decide) dX7_fitsSeen_17 rfl ?_
    rw [(hA.2.2.2 k (by omega)).1]
    refine gj_aload_n (pc' := 19) dX7_fitsSeen_18 rfl rfl ?_
    refine gf_X7_28 (pc' := 22) dX7_fitsSeen_19 rfl (by first | rfl | assumption) rfl ?_
    refine gj_iload_n (pc' := 23) dX7_fitsSeen_22 rfl rfl ?_
    refine gj_iald (pc' := 24) (by first | rfl | assumption) rfl (by omega) (by decide) dX7_fitsSeen_23 rfl ?_
    rw [(hA.2.2.2 k (by omega)).2.1]
    refine gr_X7_74 (pc' := 27) dX7_fitsSeen_24 rfl (s_stray ht hT hA hS hc (h11 (by omega)).1 (by have := h11 (by omega); omega)) rfl (by first | rfl | assumption) (by decide) rfl (Nat.le_of_ble_eq_true rfl) ?_
    refine gj_istore_n (pc' := 28) dX7_fitsSeen_27 rfl (by decide) ?_
    refine gj_aload_n (pc' := 29) dX7_fitsSeen_28 rfl rfl ?_
    refine gf_X7_34 (pc' := 32) dX7_fitsSeen_29 rfl (by first | rfl | assumption) rfl ?_
    refine gj_iload_n (pc' := 33) dX7_fitsSeen_32 rfl rfl ?_
    refine gj_iald (pc' := 34) (by first | rfl | assumption) rfl (by omega) (by decide) dX7_fitsSeen_33 rfl ?_
    rw [hK k (by omega)]
    refine gj_iload_n (pc' := 35) dX7_fitsSeen_34 rfl rfl ?_
    refine gj_iadd (pc' := 36) dX7_fitsSeen_35 rfl ?_
    refine gj_aload_n (pc' := 37) dX7_fitsSeen_36 rfl rfl ?_
    refine gf_X7_31 (pc' := 40) dX7_fitsSeen_37 rfl (by first | rfl | assumption) rfl ?_
    refine gj_iload_n (pc' := 41) dX7_fitsSeen_40 rfl rfl ?_
    refine gj_iald (pc' := 42) (by first | rfl | assumption) rfl (by omega) (by decide) dX7_fitsSeen_41 rfl ?_
    rw [(hA.2.2.2 k (by omega)).2.2]
    refine gj_icmp_eq (pc' := 45) (tgt := 47) dX7_fitsSeen_42 (by decide) rfl (by have := h11 (by omega); omega) (fun c42 => ?_) (fun c42 => ?_)
    · refine gj_iinc (pc' := 50) dX7_fitsSeen_47 rfl rfl (by decide) ?_
      refine gj_goto (pc' := 2) dX7_fitsSeen_50 (by decide) ?_
      refine gJ_wk (ih_k  _ (by omega) ?iv_2) ?ll_2
      case ll_2 =>
        repeat' (first | exact True.intro | with_reducible exact rfl | refine And.intro ?_ ?_ | refine vI ?_ | refine vL ?_)
        all_goals omega
      refine ⟨rfl, ?_⟩
      rw [es, i2, Bool.false_or]
      unfold okD
      rw [Bool.not_eq_false', beq_iff_eq]
      omega
    · refine gj_iconst (pc' := 46) dX7_fitsSeen_45 rfl ?_
      refine gj_zret rfl (by first | rfl | exact gnZ _ | assumption) dX7_fitsSeen_46 ?_
      have hit : okD T c k = true := by
        unfold okD
        rw [Bool.not_eq_true', beq_eq_false_iff_ne]
        omega
      exact gR_f (by unfold okS; rw [anyN_t.mpr ⟨k, by omega, hit⟩]; rfl)
/-- only the strays' own results have changed -/
def stE (h h' : gH) (t : Nat) : Prop := h'.2 = h.2 ∧ (∀ o, o ≠ t + 10 → o ≠ t + 14 → o ≠ t + 15 → o ≠ t + 16 → o ≠ t + 20 → o ≠ t + 21 → h'.1 o = h.1 o) ∧ (∀ k, k ≠ 9 → h'.1 (t + 10) k = h.1 (t + 10) k)
theorem TownA.to {h h' : gH} {t : Nat} {T : Nat → Nat} (a : TownA h t T) (e : ∀ o, t ≤ o → o ≤ t + 7 → h'.1 o = h.1 o) : TownA h' t T := by
  obtain ⟨a1, a2, a3⟩ := a
  refine ⟨fun k hk => ?_, fun k hk => ?_, fun b hb => ?_⟩
  · rw [e t (by omega) (by omega)]; exact a1 k hk
  · rw [e (t + 1) (by omega) (by omega), e (t + 2) (by omega) (by omega)]; exact a2 k hk
  · rw [e (t + 3) (by omega) (by omega), e (t + 4) (by omega) (by omega), e (t + 5) (by omega) (by omega), e (t + 6) (by omega) (by omega), e (t + 7) (by omega) (by omega)]; exact a3 b hb
theorem TownB.to {h h' : gH} {t : Nat} {T : Nat → Nat} (a : TownB h t T) (e8 : h'.1 (t + 8) = h.1 (t + 8)) (e9 : h'.1 (t + 9) = h.1 (t + 9)) : TownB h' t T := fun b hb => by
  rw [e8, e9]
  exact a b hb
theorem s_settleS {h : gH} {t : Nat} {T : Nat → Nat} (ht : isT t) (hT : TV T) (hTA : TownA h t T) (hTB : TownB h t T) (hA : StrA h t T) : gSp 6 yX7_settle cX7_settle 4 none [.ref (t + 10), .ref t] h (fun v h' => v = none ∧ stE h h' t ∧ StrS h' t T ∧ StrK h' t T ∧ StrR h' t T (NC T)) := by
  obtain ⟨t0, -⟩ := shT ht
  obtain ⟨s0, s1, s2, s3, s4, s5, s6, s7, s8, s9, -⟩ := shS ht
  have htt : t = 6 ∨ t = 29 := ht
  have h3 := hT.2.2.2.1
  have h5 : T 5 ≤ 3 := hT.2.2.2.2.2.1
  have h6 : T 6 ≤ 5 := hT.2.2.2.2.2.2.1
  have hA3 := hTA.1 3 (by omega)
  have hNC := NC_le hT
  have h125 := cnt_125 hT
  refine gSp_of (by decide +kernel) (Nat.le_of_ble_eq_true rfl) ?_
  show gJ RX7 cX7_settle 4 none _ 0 [some (.ref (t + 10)), some (.ref t), none, none] [] _ _
  refine gj_iconst (pc' := 1) dX7_settle_0 rfl ?_
  refine gj_istore_n (pc' := 2) dX7_settle_1 rfl (by decide) ?_
  refine gJ_wk (gJ_fH0 (L := fun s  => [some (.ref (t + 10)), some (.ref t), some (.int (zI (s : Int))), none]) (I := fun s  hp => hp.2 = h.2 ∧ (∀ o, o ≠ t + 14 → o ≠ t + 15 → o ≠ t + 16 → hp.1 o = h.1 o) ∧ (∀ i, i < s → ∀ k, k < T 3 → hp.1 (t + 14 + i) k = (stT T i k : Int))) (T 5) (fun s  hp hb_s iv_s ih_s => ?step_1) (0) (Nat.zero_le _)  _ ?iv0_1) ?ll0_1
  case ll0_1 =>
    repeat' (first | exact True.intro | with_reducible exact rfl | refine And.intro ?_ ?_ | refine vI ?_ | refine vL ?_)
    all_goals first | rfl | omega
  case iv0_1 =>
    exact ⟨rfl, fun _ _ _ _ => rfl, fun i hi => absurd hi (Nat.not_lt_zero i)⟩
  obtain ⟨i1, i2, i3⟩ := iv_s
  refine gj_iload_n (pc' := 3) dX7_settle_2 rfl rfl ?_
  refine gj_aload_n (pc' := 4) dX7_settle_3 rfl rfl ?_
  refine gf_X7_43 (pc' := 7) dX7_settle_4 rfl (by first | rfl | assumption) rfl ?_
  rw [i2 (t + 10) (by omega) (by omega) (by omega), hA.1]
  refine gj_icmp_ge (pc' := 10) (tgt := 58) dX7_settle_7 (by decide) rfl (by omega) (fun c7 => ?_) (fun c7 => ?_)
  · refine gj_iconst (pc' := 59) dX7_settle_58 rfl ?_
    refine gj_istore_n (pc' := 60) dX7_settle_59 rfl (by decide) ?_
    refine gJ_wk (gJ_fH0 (L := fun k  => [some (.ref (t + 10)), some (.ref t), some (.int (zI (k : Int))), none]) (I := fun k  hp => hp.2 = h.2 ∧ (∀ o, o ≠ t + 14 → o ≠ t + 15 → o ≠ t + 16 → o ≠ t + 20 → hp.1 o = h.1 o) ∧ StrS hp t T ∧ (∀ i, i < k → hp.1 (t + 20) i = (knN T i : Int))) (T 6) (fun k  hp hb_k iv_k ih_k => ?step_2) (0) (Nat.zero_le _)  _ ?iv0_2) ?ll0_2
    case ll0_2 =>
      repeat' (first | exact True.intro | with_reducible exact rfl | refine And.intro ?_ ?_ | refine vI ?_ | refine vL ?_)
      all_goals first | rfl | omega
    case iv0_2 =>
      exact ⟨i1, fun o o1 o2 o3 _ => i2 o o1 o2 o3, fun i hi => i3 i (by omega), fun i hi => absurd hi (Nat.not_lt_zero i)⟩
    obtain ⟨k1, k2, k3, k4⟩ := iv_k
    have hTA2 : TownA hp t T := hTA.to (fun o o1 o2 => k2 o (by omega) (by omega) (by omega) (by omega))
    have hTB2 : TownB hp t T := hTB.to (k2 _ (by omega) (by omega) (by omega) (by omega)) (k2 _ (by omega) (by omega) (by omega) (by omega))
    refine gj_iload_n (pc' := 61) dX7_settle_60 rfl rfl ?_
    refine gj_aload_n (pc' := 62) dX7_settle_61 rfl rfl ?_
    refine gf_X7_47 (pc' := 65) dX7_settle_62 rfl (by first | rfl | assumption) rfl ?_
    rw [k2 (t + 10) (by omega) (by omega) (by omega) (by omega), hA.2.1]
    refine gj_icmp_ge (pc' := 68) (tgt := 96) dX7_settle_65 (by decide) rfl (by omega) (fun c65 => ?_) (fun c65 => ?_)
    · refine gj_aload_n (pc' := 97) dX7_settle_96 rfl rfl ?_
      refine gj_iconst (pc' := 98) dX7_settle_97 rfl ?_
      refine gp_X7_50 (pc' := 101) dX7_settle_98 rfl (by first | rfl | assumption) rfl ?_
      refine gj_iconst (pc' := 102) dX7_settle_101 rfl ?_
      refine gj_iconst (pc' := 103) dX7_settle_102 rfl ?_
      refine gj_aload_n (pc' := 104) dX7_settle_103 rfl rfl ?_
      refine gf_X7_43 (pc' := 107) dX7_settle_104 rfl (by first | rfl | assumption) rfl ?_
      rw [gui_s, up1_n (by decide), k2 (t + 10) (by omega) (by omega) (by omega) (by omega), hA.1]
      refine gj_imul (pc' := 108) dX7_settle_107 rfl ?_
      rw [show (3 : Int) * ((T 5 : Nat) : Int) = ((3 * T 5 : Nat) : Int) by omega]
      refine gj_ishl (pc' := 109) dX7_settle_108 rfl ?_
      rw [bt_shl1 (by omega), show (2 ^ (3 * T 5)) = NC T from rfl]
      refine gj_istore_n (pc' := 110) dX7_settle_109 rfl (by decide) ?_
      refine gj_iconst (pc' := 111) dX7_settle_110 rfl ?_
      refine gj_istore_n (pc' := 112) dX7_settle_111 rfl (by decide) ?_
      refine gJ_wk (gJ_fH0 (L := fun c  => [some (.ref (t + 10)), some (.ref t), some (.int (zI (NC T : Nat))), some (.int (zI (c : Int)))]) (I := fun c  hp => hp.2 = h.2 ∧ (∀ o, o ≠ t + 10 → o ≠ t + 14 → o ≠ t + 15 → o ≠ t + 16 → o ≠ t + 20 → o ≠ t + 21 → hp.1 o = h.1 o) ∧ (∀ k, k ≠ 9 → hp.1 (t + 10) k = h.1 (t + 10) k) ∧ StrS hp t T ∧ StrK hp t T ∧ StrR hp t T c) (NC T) (fun c  hp hb_c iv_c ih_c => ?step_3) (0) (Nat.zero_le _)  _ ?iv0_3) ?ll0_3
      case ll0_3 =>
        repeat' (first | exact True.intro | with_reducible exact rfl | refine And.intro ?_ ?_ | refine vI ?_ | refine vL ?_)
        all_goals first | rfl | omega
      case iv0_3 =>
        refine ⟨k1, fun o o0 o1 o2 o3 o4 _ => (gui_n o0).trans (k2 o o1 o2 o3 o4), fun k hk => ?_, fun i hi x hx => ?_, fun i hi => ?_, ?_, fun c hc => absurd hc (Nat.not_lt_zero c)⟩
        · rw [gui_s, up1_n hk, k2 (t + 10) (by omega) (by omega) (by omega) (by omega)]
        · rw [gui_n (by omega)]; exact k3 i hi x hx
        · rw [gui_n (by omega)]; exact k4 i (by omega)
        · rw [gui_s, up1_s]; rfl
      obtain ⟨l1, l2, l3, l4, l5, l6, l7⟩ := iv_c
      have hTA2 : TownA hp t T := hTA.to (fun o o1 o2 => l2 o (by omega) (by omega) (by omega) (by omega) (by omega) (by omega))
      have hA2 : StrA hp t T := hA.to (l3 0 (by decide)) (l3 4 (by decide)) (l2 _ (by omega) (by omega) (by omega) (by omega) (by omega) (by omega)) (l2 _ (by omega) (by omega) (by omega) (by omega) (by omega) (by omega)) (l2 _ (by omega) (by omega) (by omega) (by omega) (by omega) (by omega)) (l2 _ (by omega) (by omega) (by omega) (by omega) (by omega) (by omega)) (l2 _ (by omega) (by omega) (by omega) (by omega) (by omega) (by omega))
      have hcs := cnt_s (T := T) c
      have hcl : c < NC T → cnt T c + (okF T c).toNat ≤ 125 := fun q => by
        have := cnt_mono (T := T) (a := c + 1) (b := NC T) q
        omega
      have hcm := cnt_mono (T := T) (a := c) (b := NC T) hb_c
      refine gj_iload_n (pc' := 113) dX7_settle_112 rfl rfl ?_
      refine gj_iload_n (pc' := 114) dX7_settle_113 rfl rfl ?_
      refine gj_icmp_ge (pc' := 117) (tgt := 172) dX7_settle_114 (by decide) rfl (by omega) (fun c114 => ?_) (fun c114 => ?_)
      · refine gj_vret rfl dX7_settle_172 ?_
        rw [show NC T = c by omega]
        exact ⟨rfl, ⟨l1, l2, l3⟩, l4, l5, l6, l7⟩
      · refine gj_aload_n (pc' := 118) dX7_settle_117 rfl rfl ?_
        refine gj_iload_n (pc' := 119) dX7_settle_118 rfl rfl ?_
        refine gj_aload_n (pc' := 120) dX7_settle_119 rfl rfl ?_
        refine gf_X7_53 (pc' := 123) dX7_settle_120 rfl (by first | rfl | assumption) rfl ?_
        rw [hTA2.1 3 (by omega)]
        refine gr_X7_63 (pc' := 126) dX7_settle_123 rfl (s_isRow ht hT hA2 (by omega)) rfl (by first | rfl | assumption) (by decide) rfl (Nat.le_of_ble_eq_true rfl) ?_
        first | refine gj_ifB_eq (pc' := 129) (tgt := 166) dX7_settle_126 (by decide) rfl (fun c126 => ?_) (fun c126 => ?_) | refine gj_if_eq (pc' := 129) (tgt := 166) dX7_settle_126 (by decide) rfl (by omega) (fun c126 => ?_) (fun c126 => ?_)
        · refine gj_iinc (pc' := 169) dX7_settle_166 rfl rfl (by decide) ?_
          refine gj_goto (pc' := 112) dX7_settle_169 (by decide) ?_
          refine gJ_wk (ih_c  _ (by omega) ?iv_4) ?ll_4
          case ll_4 =>
            repeat' (first | exact True.intro | with_reducible exact rfl | refine And.intro ?_ ?_ | refine vI ?_ | refine vL ?_)
            all_goals omega
          first
          | (refine ⟨l1, fun o o0 o1 o2 o3 o4 o5 => (gui_n o0).trans ((gui_n o5).trans (l2 o o0 o1 o2 o3 o4 o5)), fun k hk => ?_, fun i hi x hx => ?_, fun i hi => ?_, ?_, fun d hd hdo => ?_⟩
             · rw [gui_s, up1_n hk, gui_n (by omega)]; exact l3 k hk
             · rw [gui_n (by omega), gui_n (by omega)]; exact l4 i hi x hx
             · rw [gui_n (by omega), gui_n (by omega)]; exact l5 i hi
             · rw [gui_s, up1_s]; omega
             · rw [gui_n (by omega), gui_s]
               by_cases q : d = c
               · rw [q, up1_s]
               · have := cnt_lt (T := T) (c := d) (n := c) (by omega) hdo
                 rw [up1_n (by omega)]
                 exact l7 d (by omega) hdo)
          | (have hno : okF T c = false := by
               unfold okF
               first
               | (rw [c126, Bool.false_and])
               | (rw [c126, c134, Bool.and_false])
             rw [hno] at hcs
             have e0 : false.toNat = 0 := rfl
             refine ⟨l1, l2, l3, l4, l5, by rw [l6]; omega, fun d hd hdo => ?_⟩
             by_cases q : d = c
             · rw [q, hno] at hdo; cases hdo
             · exact l7 d (by omega) hdo)
        · refine gj_aload_n (pc' := 130) dX7_settle_129 rfl rfl ?_
          refine gj_iload_n (pc' := 131) dX7_settle_130 rfl rfl ?_
          refine gr_X7_67 (pc' := 134) dX7_settle_131 rfl (s_fitsSeen ht hT hA2 l4 l5 (by omega)) rfl (by first | rfl | assumption) (by decide) rfl (Nat.le_of_ble_eq_true rfl) ?_
          first | refine gj_ifB_eq (pc' := 137) (tgt := 166) dX7_settle_134 (by decide) rfl (fun c134 => ?_) (fun c134 => ?_) | refine gj_if_eq (pc' := 137) (tgt := 166) dX7_settle_134 (by decide) rfl (by omega) (fun c134 => ?_) (fun c134 => ?_)
          · refine gj_iinc (pc' := 169) dX7_settle_166 rfl rfl (by decide) ?_
            refine gj_goto (pc' := 112) dX7_settle_169 (by decide) ?_
            refine gJ_wk (ih_c  _ (by omega) ?iv_5) ?ll_5
            case ll_5 =>
              repeat' (first | exact True.intro | with_reducible exact rfl | refine And.intro ?_ ?_ | refine vI ?_ | refine vL ?_)
              all_goals omega
            first
            | (refine ⟨l1, fun o o0 o1 o2 o3 o4 o5 => (gui_n o0).trans ((gui_n o5).trans (l2 o o0 o1 o2 o3 o4 o5)), fun k hk => ?_, fun i hi x hx => ?_, fun i hi => ?_, ?_, fun d hd hdo => ?_⟩
               · rw [gui_s, up1_n hk, gui_n (by omega)]; exact l3 k hk
               · rw [gui_n (by omega), gui_n (by omega)]; exact l4 i hi x hx
               · rw [gui_n (by omega), gui_n (by omega)]; exact l5 i hi
               · rw [gui_s, up1_s]; omega
               · rw [gui_n (by omega), gui_s]
                 by_cases q : d = c
                 · rw [q, up1_s]
                 · have := cnt_lt (T := T) (c := d) (n := c) (by omega) hdo
                   rw [up1_n (by omega)]
                   exact l7 d (by omega) hdo)
            | (have hno : okF T c = false := by
                 unfold okF
                 first
                 | (rw [c126, Bool.false_and])
                 | (rw [c126, c134, Bool.and_false])
               rw [hno] at hcs
               have e0 : false.toNat = 0 := rfl
               refine ⟨l1, l2, l3, l4, l5, by rw [l6]; omega, fun d hd hdo => ?_⟩
               by_cases q : d = c
               · rw [q, hno] at hdo; cases hdo
               · exact l7 d (by omega) hdo)
          · refine gj_aload_n (pc' := 138) dX7_settle_137 rfl rfl ?_
            refine gf_X7_50 (pc' := 141) dX7_settle_138 rfl (by first | rfl | assumption) rfl ?_
            rw [l6]
            refine gj_bipush (pc' := 143) dX7_settle_141 rfl (by decide) ?_
            have hok : okF T c = true := by unfold okF; rw [c126, c134]; rfl
            rw [hok] at hcl hcs
            have e1 : true.toNat = 1 := rfl
            have hcl2 := hcl (by omega)
            refine gj_icmp_ge (pc' := 146) (tgt := 166) dX7_settle_143 (by decide) rfl (by omega) (fun c143 => ?_) (fun c143 => ?_)
            · exfalso; omega
            · refine gj_aload_n (pc' := 147) dX7_settle_146 rfl rfl ?_
              refine gf_X7_37 (pc' := 150) dX7_settle_147 rfl (by first | rfl | assumption) rfl ?_
              refine gj_aload_n (pc' := 151) dX7_settle_150 rfl rfl ?_
              refine gf_X7_50 (pc' := 154) dX7_settle_151 rfl (by first | rfl | assumption) rfl ?_
              rw [l6]
              refine gj_iload_n (pc' := 155) dX7_settle_154 rfl rfl ?_
              refine gj_iast (pc' := 156) (j := cnt T c) (by first | rfl | assumption) (by omega) (by omega) (by decide) dX7_settle_155 rfl ?_
              refine gj_aload_n (pc' := 157) dX7_settle_156 rfl rfl ?_
              refine gj_dup (pc' := 158) dX7_settle_157 rfl rfl ?_
              refine gf_X7_50 (pc' := 161) dX7_settle_158 rfl (by first | rfl | assumption) rfl ?_
              rw [gui_n (by omega), l6]
              refine gj_iconst (pc' := 162) dX7_settle_161 rfl ?_
              refine gj_iadd (pc' := 163) dX7_settle_162 rfl ?_
              refine gp_X7_50 (pc' := 166) dX7_settle_163 rfl (by first | rfl | assumption) rfl ?_
              refine gj_iinc (pc' := 169) dX7_settle_166 rfl rfl (by decide) ?_
              refine gj_goto (pc' := 112) dX7_settle_169 (by decide) ?_
              refine gJ_wk (ih_c  _ (by omega) ?iv_6) ?ll_6
              case ll_6 =>
                repeat' (first | exact True.intro | with_reducible exact rfl | refine And.intro ?_ ?_ | refine vI ?_ | refine vL ?_)
                all_goals omega
              first
              | (refine ⟨l1, fun o o0 o1 o2 o3 o4 o5 => (gui_n o0).trans ((gui_n o5).trans (l2 o o0 o1 o2 o3 o4 o5)), fun k hk => ?_, fun i hi x hx => ?_, fun i hi => ?_, ?_, fun d hd hdo => ?_⟩
                 · rw [gui_s, up1_n hk, gui_n (by omega)]; exact l3 k hk
                 · rw [gui_n (by omega), gui_n (by omega)]; exact l4 i hi x hx
                 · rw [gui_n (by omega), gui_n (by omega)]; exact l5 i hi
                 · rw [gui_s, up1_s]; omega
                 · rw [gui_n (by omega), gui_s]
                   by_cases q : d = c
                   · rw [q, up1_s]
                   · have := cnt_lt (T := T) (c := d) (n := c) (by omega) hdo
                     rw [up1_n (by omega)]
                     exact l7 d (by omega) hdo)
              | (have hno : okF T c = false := by
                   unfold okF
                   first
                   | (rw [c126, Bool.false_and])
                   | (rw [c126, c134, Bool.and_false])
                 rw [hno] at hcs
                 have e0 : false.toNat = 0 := rfl
                 refine ⟨l1, l2, l3, l4, l5, by rw [l6]; omega, fun d hd hdo => ?_⟩
                 by_cases q : d = c
                 · rw [q, hno] at hdo; cases hdo
                 · exact l7 d (by omega) hdo)
    · refine gj_aload_n (pc' := 69) dX7_settle_68 rfl rfl ?_
      have h11 := hT.2.2.2.2.2.2.2.2.2.2 k (by omega)
      have hA2 := hA.2.2.2 k (by omega)
      refine gf_X7_34 (pc' := 72) dX7_settle_69 rfl (by first | rfl | assumption) rfl ?_
      refine gj_iload_n (pc' := 73) dX7_settle_72 rfl rfl ?_
      refine gj_aload_n (pc' := 74) dX7_settle_73 rfl rfl ?_
      refine gj_aload_n (pc' := 75) dX7_settle_74 rfl rfl ?_
      refine gf_X7_25 (pc' := 78) dX7_settle_75 rfl (by first | rfl | assumption) rfl ?_
      refine gj_iload_n (pc' := 79) dX7_settle_78 rfl rfl ?_
      refine gj_iald (pc' := 80) (by first | rfl | assumption) rfl (by omega) (by decide) dX7_settle_79 rfl ?_
      rw [k2 (t + 17) (by omega) (by omega) (by omega) (by omega), hA2.1]
      refine gj_aload_n (pc' := 81) dX7_settle_80 rfl rfl ?_
      refine gf_X7_28 (pc' := 84) dX7_settle_81 rfl (by first | rfl | assumption) rfl ?_
      refine gj_iload_n (pc' := 85) dX7_settle_84 rfl rfl ?_
      refine gj_iald (pc' := 86) (by first | rfl | assumption) rfl (by omega) (by decide) dX7_settle_85 rfl ?_
      rw [k2 (t + 18) (by omega) (by omega) (by omega) (by omega), hA2.2.1]
      refine gr_X7_60 (pc' := 89) dX7_settle_86 rfl (s_sittersIf ht hT hTA2 hTB2 (by omega) (by omega)) rfl (by first | rfl | assumption) (by decide) rfl (Nat.le_of_ble_eq_true rfl) ?_
      refine gj_iast (pc' := 90) (j := k) (by first | rfl | assumption) (by omega) (by omega) (by decide) dX7_settle_89 rfl ?_
      refine gj_iinc (pc' := 93) dX7_settle_90 rfl rfl (by decide) ?_
      refine gj_goto (pc' := 60) dX7_settle_93 (by decide) ?_
      refine gJ_wk (ih_k  _ (by omega) ?iv_7) ?ll_7
      case ll_7 =>
        repeat' (first | exact True.intro | with_reducible exact rfl | refine And.intro ?_ ?_ | refine vI ?_ | refine vL ?_)
        all_goals omega
      refine ⟨k1, fun o o1 o2 o3 o4 => (gui_n o4).trans (k2 o o1 o2 o3 o4), fun i hi x hx => ?_, fun i hi => ?_⟩
      · rw [gui_n (by omega)]
        exact k3 i hi x hx
      · rw [gui_s]
        by_cases q : i = k
        · rw [q, up1_s]; rfl
        · rw [up1_n q]
          exact k4 i (by omega)
  · refine gj_iconst (pc' := 11) dX7_settle_10 rfl ?_
    refine gj_istore_n (pc' := 12) dX7_settle_11 rfl (by decide) ?_
    refine gJ_wk (gJ_fH0 (L := fun k  => [some (.ref (t + 10)), some (.ref t), some (.int (zI (s : Int))), some (.int (zI (k : Int)))]) (I := fun k  hp => s < T 5 ∧ hp.2 = h.2 ∧ (∀ o, o ≠ t + 14 → o ≠ t + 15 → o ≠ t + 16 → hp.1 o = h.1 o) ∧ (∀ i, i < s → ∀ k, k < T 3 → hp.1 (t + 14 + i) k = (stT T i k : Int)) ∧ (∀ x, x < k → hp.1 (t + 14 + s) x = (stT T s x : Int))) (T 3) (fun k  hp hb_k iv_k ih_k => ?step_8) (0) (Nat.zero_le _)  _ ?iv0_8) ?ll0_8
    case ll0_8 =>
      repeat' (first | exact True.intro | with_reducible exact rfl | refine And.intro ?_ ?_ | refine vI ?_ | refine vL ?_)
      all_goals first | rfl | omega
    case iv0_8 =>
      exact ⟨by omega, i1, i2, i3, fun i hi => absurd hi (Nat.not_lt_zero i)⟩
    obtain ⟨hsl, j1, j2, j3, j4⟩ := iv_k
    have s4s := s4 s (by omega)
    have h10 := hT.2.2.2.2.2.2.2.2.2.1 s hsl
    have hTA2 : TownA hp t T := hTA.to (fun o o1 o2 => j2 o (by omega) (by omega) (by omega))
    have hA2 := hA.2.2.1 s hsl
    refine gj_iload_n (pc' := 13) dX7_settle_12 rfl rfl ?_
    refine gj_aload_n (pc' := 14) dX7_settle_13 rfl rfl ?_
    refine gf_X7_53 (pc' := 17) dX7_settle_14 rfl (by first | rfl | assumption) rfl ?_
    rw [hTA2.1 3 (by omega)]
    refine gj_icmp_ge (pc' := 20) (tgt := 52) dX7_settle_17 (by decide) rfl (by omega) (fun c17 => ?_) (fun c17 => ?_)
    · refine gj_iinc (pc' := 55) dX7_settle_52 rfl rfl (by decide) ?_
      refine gj_goto (pc' := 2) dX7_settle_55 (by decide) ?_
      refine gJ_wk (ih_s  _ (by omega) ?iv_9) ?ll_9
      case ll_9 =>
        repeat' (first | exact True.intro | with_reducible exact rfl | refine And.intro ?_ ?_ | refine vI ?_ | refine vL ?_)
        all_goals omega
      refine ⟨j1, j2, fun i hi x hx => ?_⟩
      by_cases q : i = s
      · rw [q]; exact j4 x (by omega)
      · exact j3 i (by omega) x hx
    · refine gj_aload_n (pc' := 21) dX7_settle_20 rfl rfl ?_
      refine gf_X7_22 (pc' := 24) dX7_settle_21 rfl (by first | rfl | assumption) rfl ?_
      refine gj_iload_n (pc' := 25) dX7_settle_24 rfl rfl ?_
      refine gj_aald2 (pc' := 26) (j := s) (by first | rfl | assumption) (by omega) (by omega) (by decide) dX7_settle_25 rfl ?_
      rw [Nat.one_mul]
      refine gj_iload_n (pc' := 27) dX7_settle_26 rfl rfl ?_
      refine gj_aload_n (pc' := 28) dX7_settle_27 rfl rfl ?_
      refine gf_X7_15 (pc' := 31) dX7_settle_28 rfl (by first | rfl | assumption) rfl ?_
      refine gj_iload_n (pc' := 32) dX7_settle_31 rfl rfl ?_
      refine gj_iald (pc' := 33) (by first | rfl | assumption) rfl (by omega) (by decide) dX7_settle_32 rfl ?_
      rw [j2 (t + 12) (by omega) (by omega) (by omega), hA2.2]
      refine gj_aload_n (pc' := 34) dX7_settle_33 rfl rfl ?_
      refine gj_aload_n (pc' := 35) dX7_settle_34 rfl rfl ?_
      refine gf_X7_11 (pc' := 38) dX7_settle_35 rfl (by first | rfl | assumption) rfl ?_
      refine gj_iload_n (pc' := 39) dX7_settle_38 rfl rfl ?_
      refine gj_iald (pc' := 40) (by first | rfl | assumption) rfl (by omega) (by decide) dX7_settle_39 rfl ?_
      rw [j2 (t + 11) (by omega) (by omega) (by omega), hA2.1]
      refine gj_iload_n (pc' := 41) dX7_settle_40 rfl rfl ?_
      refine gr_X7_56 (pc' := 44) dX7_settle_41 rfl (s_daysApart ht hT hTA2 h10.1 (by omega)) rfl (by first | rfl | assumption) (by decide) rfl (Nat.le_of_ble_eq_true rfl) ?_
      refine gj_iadd (pc' := 45) dX7_settle_44 rfl ?_
      rw [show ((T (55 + 2 * s) : Nat) : Int) + ((tAp T (T (54 + 2 * s)) k : Nat) : Int) = ((stT T s k : Nat) : Int) from (Int.natCast_add _ _).symm]
      refine gj_iast (pc' := 46) (j := k) (by first | rfl | assumption) (by omega) (by omega) (by decide) dX7_settle_45 rfl ?_
      refine gj_iinc (pc' := 49) dX7_settle_46 rfl rfl (by decide) ?_
      refine gj_goto (pc' := 12) dX7_settle_49 (by decide) ?_
      refine gJ_wk (ih_k  _ (by omega) ?iv_10) ?ll_10
      case ll_10 =>
        repeat' (first | exact True.intro | with_reducible exact rfl | refine And.intro ?_ ?_ | refine vI ?_ | refine vL ?_)
        all_goals omega
      refine ⟨hsl, j1, fun o o1 o2 o3 => (gui_n (by omega)).trans (j2 o o1 o2 o3), fun i hi x hx => ?_, fun x hx => ?_⟩
      · rw [gui_n (by omega)]
        exact j3 i hi x hx
      · rw [gui_s]
        by_cases q : x = k
        · rw [q, up1_s]
        · rw [up1_n q]
          exact j4 x (by omega)
theorem s_settle {h : gH} {t : Nat} {T : Nat → Nat} (ht : isT t) (hT : TV T) (hTA : TownA h t T) (hA : StrA h t T) : gSp 8 yX9_settle cX9_settle 2 none [.ref t] h (fun v h' => v = none ∧ h'.2 = h.2 ∧ (∀ o, o < t + 8 ∨ t + 21 < o → h'.1 o = h.1 o) ∧ TownA h' t T ∧ TownB h' t T ∧ StrA h' t T ∧ StrS h' t T ∧ StrK h' t T ∧ StrR h' t T (NC T)) := by
  obtain ⟨t0, t1, t2, t3, t4, t5, t6, t7, t8, t9, t10⟩ := shT ht
  have htt : t = 6 ∨ t = 29 := ht
  have h3 := hT.2.2.2.1
  have h4 : T 4 ≤ 7 := hT.2.2.2.2.1
  refine gSp_of (by decide +kernel) (Nat.le_of_ble_eq_true rfl) ?_
  show gJ RX9 cX9_settle 2 none _ 0 [some (.ref t), none] [] _ _
  refine gj_iconst (pc' := 1) dX9_settle_0 rfl ?_
  refine gj_istore_n (pc' := 2) dX9_settle_1 rfl (by decide) ?_
  refine gJ_wk (gJ_fH0 (L := fun b  => [some (.ref t), some (.int (zI (b : Int)))]) (I := fun b  hp => hp.2 = h.2 ∧ (∀ o, o ≠ t + 8 → o ≠ t + 9 → hp.1 o = h.1 o) ∧ (∀ i, i < b → hp.1 (t + 8) i = (tSill T i : Int) ∧ hp.1 (t + 9) i = (tFl T i : Int))) (T 4) (fun b  hp hb_b iv_b ih_b => ?step_1) (0) (Nat.zero_le _)  _ ?iv0_1) ?ll0_1
  case ll0_1 =>
    repeat' (first | exact True.intro | with_reducible exact rfl | refine And.intro ?_ ?_ | refine vI ?_ | refine vL ?_)
    all_goals first | rfl | omega
  case iv0_1 =>
    exact ⟨rfl, fun _ _ _ => rfl, fun i hi => absurd hi (Nat.not_lt_zero i)⟩
  obtain ⟨i1, i2, i3⟩ := iv_b
  have hTA2 : TownA hp t T := hTA.to (fun o o1 o2 => i2 o (by omega) (by omega))
  have hA2 : StrA hp t T := hA.to (by rw [i2 _ (by omega) (by omega)]) (by rw [i2 _ (by omega) (by omega)]) (i2 _ (by omega) (by omega)) (i2 _ (by omega) (by omega)) (i2 _ (by omega) (by omega)) (i2 _ (by omega) (by omega)) (i2 _ (by omega) (by omega))
  refine gj_iload_n (pc' := 3) dX9_settle_2 rfl rfl ?_
  refine gj_aload_n (pc' := 4) dX9_settle_3 rfl rfl ?_
  refine gf_X9_57 (pc' := 7) dX9_settle_4 rfl (by first | rfl | assumption) rfl ?_
  rw [hTA2.1 4 (by omega)]
  refine gj_icmp_ge (pc' := 10) (tgt := 73) dX9_settle_7 (by decide) rfl (by omega) (fun c7 => ?_) (fun c7 => ?_)
  · refine gj_aload_n (pc' := 74) dX9_settle_73 rfl rfl ?_
    refine gf_X9_40 (pc' := 77) dX9_settle_74 rfl (by first | rfl | assumption) rfl ?_
    refine gj_aload_n (pc' := 78) dX9_settle_77 rfl rfl ?_
    have hTB2 : TownB hp t T := fun i hi => i3 i (by omega)
    refine gc_X9_71 (pc' := 81) dX9_settle_78 rfl (s_settleS ht hT hTA2 hTB2 hA2) rfl (by first | rfl | assumption) (by decide) rfl (Nat.le_of_ble_eq_true rfl) (fun v9 h9 q9 => ?_)
    obtain ⟨rfl, ⟨e0, e1, e2⟩, q1, q2, q3⟩ := q9
    show gJ _ _ _ _ _ _ _ [] _ _
    refine gj_vret rfl dX9_settle_81 ?_
    exact ⟨rfl, e0.trans i1, fun o ho => (e1 o (by omega) (by omega) (by omega) (by omega) (by omega) (by omega)).trans (i2 o (by omega) (by omega)), hTA2.to (fun o o1 o2 => e1 o (by omega) (by omega) (by omega) (by omega) (by omega) (by omega)), hTB2.to (e1 _ (by omega) (by omega) (by omega) (by omega) (by omega) (by omega)) (e1 _ (by omega) (by omega) (by omega) (by omega) (by omega) (by omega)), hA2.to (e2 0 (by decide)) (e2 4 (by decide)) (e1 _ (by omega) (by omega) (by omega) (by omega) (by omega) (by omega)) (e1 _ (by omega) (by omega) (by omega) (by omega) (by omega) (by omega)) (e1 _ (by omega) (by omega) (by omega) (by omega) (by omega) (by omega)) (e1 _ (by omega) (by omega) (by omega) (by omega) (by omega) (by omega)) (e1 _ (by omega) (by omega) (by omega) (by omega) (by omega) (by omega)), q1, q2, q3⟩
  · have h9 := hT.2.2.2.2.2.2.2.2.1 b (by omega)
    have hb3 := hTA2.2.2 b (by omega)
    have hsl := tSill_lt hT (b := b) (by omega)
    refine gj_aload_n (pc' := 11) dX9_settle_10 rfl rfl ?_
    refine gf_X9_31 (pc' := 14) dX9_settle_11 rfl (by first | rfl | assumption) rfl ?_
    refine gj_iload_n (pc' := 15) dX9_settle_14 rfl rfl ?_
    refine gj_aload_n (pc' := 16) dX9_settle_15 rfl rfl ?_
    refine gf_X9_16 (pc' := 19) dX9_settle_16 rfl (by first | rfl | assumption) rfl ?_
    refine gj_iload_n (pc' := 20) dX9_settle_19 rfl rfl ?_
    refine gj_iald (pc' := 21) (by first | rfl | assumption) rfl (by omega) (by decide) dX9_settle_20 rfl ?_
    rw [hb3.1]
    refine gj_iconst (pc' := 22) dX9_settle_21 rfl ?_
    refine gj_icmp_ne (pc' := 25) (tgt := 38) dX9_settle_22 (by decide) rfl (by omega) (fun c22 => ?_) (fun c22 => ?_)
    · refine gj_aload_n (pc' := 39) dX9_settle_38 rfl rfl ?_
      refine gf_X9_22 (pc' := 42) dX9_settle_39 rfl (by first | rfl | assumption) rfl ?_
      refine gj_iload_n (pc' := 43) dX9_settle_42 rfl rfl ?_
      refine gj_iald (pc' := 44) (by first | rfl | assumption) rfl (by omega) (by decide) dX9_settle_43 rfl ?_
      rw [hb3.2.2.1]
      have hsv : tSill T b = if T (19 + 5 * b) = 3 then tNear T (T (21 + 5 * b)) else T (21 + 5 * b) := rfl
      first
      | (rw [if_pos (by omega)] at hsv; rw [← hsv])
      | (rw [if_neg (by omega)] at hsv; rw [← hsv])
      refine gj_iast (pc' := 45) (j := b) (by first | rfl | assumption) (by omega) (by omega) (by decide) dX9_settle_44 rfl ?_
      refine gj_aload_n (pc' := 46) dX9_settle_45 rfl rfl ?_
      refine gf_X9_34 (pc' := 49) dX9_settle_46 rfl (by first | rfl | assumption) rfl ?_
      refine gj_iload_n (pc' := 50) dX9_settle_49 rfl rfl ?_
      refine gj_aload_n (pc' := 51) dX9_settle_50 rfl rfl ?_
      refine gj_aload_n (pc' := 52) dX9_settle_51 rfl rfl ?_
      refine gf_X9_19 (pc' := 55) dX9_settle_52 rfl (by first | rfl | assumption) rfl ?_
      refine gj_iload_n (pc' := 56) dX9_settle_55 rfl rfl ?_
      refine gj_iald (pc' := 57) (by first | rfl | assumption) rfl (by omega) (by decide) dX9_settle_56 rfl ?_
      rw [gui_n (by omega), hb3.2.1]
      refine gj_aload_n (pc' := 58) dX9_settle_57 rfl rfl ?_
      refine gf_X9_31 (pc' := 61) dX9_settle_58 rfl (by first | rfl | assumption) rfl ?_
      refine gj_iload_n (pc' := 62) dX9_settle_61 rfl rfl ?_
      refine gj_iald (pc' := 63) (j := b) (by first | rfl | assumption) (by omega) (by omega) (by decide) dX9_settle_62 rfl ?_
      rw [gui_s, up1_s]
      refine gr_X9_67 (pc' := 66) dX9_settle_63 rfl (s_daysApart ht hT (hTA2.to (fun o o1 o2 => gui_n (by omega))) h9.2.1 hsl) rfl (by first | rfl | assumption) (by decide) rfl (Nat.le_of_ble_eq_true rfl) ?_
      refine gj_iast (pc' := 67) (j := b) (by first | rfl | assumption) (by omega) (by omega) (by decide) dX9_settle_66 rfl ?_
      refine gj_iinc (pc' := 70) dX9_settle_67 rfl rfl (by decide) ?_
      refine gj_goto (pc' := 2) dX9_settle_70 (by decide) ?_
      refine gJ_wk (ih_b  _ (by omega) ?iv_2) ?ll_2
      case ll_2 =>
        repeat' (first | exact True.intro | with_reducible exact rfl | refine And.intro ?_ ?_ | refine vI ?_ | refine vL ?_)
        all_goals omega
      refine ⟨i1, fun o o1 o2 => (gui_n o2).trans ((gui_n o1).trans (i2 o o1 o2)), fun i hi => ⟨?_, ?_⟩⟩
      · rw [gui_n (by omega), gui_s]
        by_cases q : i = b
        · rw [q, up1_s]
        · rw [up1_n q]; exact (i3 i (by omega)).1
      · rw [gui_s]
        by_cases q : i = b
        · rw [q, up1_s]; rfl
        · rw [up1_n q, gui_n (by omega)]; exact (i3 i (by omega)).2
    · refine gj_aload_n (pc' := 26) dX9_settle_25 rfl rfl ?_
      refine gj_aload_n (pc' := 27) dX9_settle_26 rfl rfl ?_
      refine gf_X9_22 (pc' := 30) dX9_settle_27 rfl (by first | rfl | assumption) rfl ?_
      refine gj_iload_n (pc' := 31) dX9_settle_30 rfl rfl ?_
      refine gj_iald (pc' := 32) (by first | rfl | assumption) rfl (by omega) (by decide) dX9_settle_31 rfl ?_
      rw [hb3.2.2.1]
      refine gr_X9_63 (pc' := 35) dX9_settle_32 rfl (s_nearestTo ht hT hTA2 h9.2.2.1) rfl (by first | rfl | assumption) (by decide) rfl (Nat.le_of_ble_eq_true rfl) ?_
      refine gj_goto (pc' := 44) dX9_settle_35 (by decide) ?_
      have hsv : tSill T b = if T (19 + 5 * b) = 3 then tNear T (T (21 + 5 * b)) else T (21 + 5 * b) := rfl
      first
      | (rw [if_pos (by omega)] at hsv; rw [← hsv])
      | (rw [if_neg (by omega)] at hsv; rw [← hsv])
      refine gj_iast (pc' := 45) (j := b) (by first | rfl | assumption) (by omega) (by omega) (by decide) dX9_settle_44 rfl ?_
      refine gj_aload_n (pc' := 46) dX9_settle_45 rfl rfl ?_
      refine gf_X9_34 (pc' := 49) dX9_settle_46 rfl (by first | rfl | assumption) rfl ?_
      refine gj_iload_n (pc' := 50) dX9_settle_49 rfl rfl ?_
      refine gj_aload_n (pc' := 51) dX9_settle_50 rfl rfl ?_
      refine gj_aload_n (pc' := 52) dX9_settle_51 rfl rfl ?_
      refine gf_X9_19 (pc' := 55) dX9_settle_52 rfl (by first | rfl | assumption) rfl ?_
      refine gj_iload_n (pc' := 56) dX9_settle_55 rfl rfl ?_
      refine gj_iald (pc' := 57) (by first | rfl | assumption) rfl (by omega) (by decide) dX9_settle_56 rfl ?_
      rw [gui_n (by omega), hb3.2.1]
      refine gj_aload_n (pc' := 58) dX9_settle_57 rfl rfl ?_
      refine gf_X9_31 (pc' := 61) dX9_settle_58 rfl (by first | rfl | assumption) rfl ?_
      refine gj_iload_n (pc' := 62) dX9_settle_61 rfl rfl ?_
      refine gj_iald (pc' := 63) (j := b) (by first | rfl | assumption) (by omega) (by omega) (by decide) dX9_settle_62 rfl ?_
      rw [gui_s, up1_s]
      refine gr_X9_67 (pc' := 66) dX9_settle_63 rfl (s_daysApart ht hT (hTA2.to (fun o o1 o2 => gui_n (by omega))) h9.2.1 hsl) rfl (by first | rfl | assumption) (by decide) rfl (Nat.le_of_ble_eq_true rfl) ?_
      refine gj_iast (pc' := 67) (j := b) (by first | rfl | assumption) (by omega) (by omega) (by decide) dX9_settle_66 rfl ?_
      refine gj_iinc (pc' := 70) dX9_settle_67 rfl rfl (by decide) ?_
      refine gj_goto (pc' := 2) dX9_settle_70 (by decide) ?_
      refine gJ_wk (ih_b  _ (by omega) ?iv_3) ?ll_3
      case ll_3 =>
        repeat' (first | exact True.intro | with_reducible exact rfl | refine And.intro ?_ ?_ | refine vI ?_ | refine vL ?_)
        all_goals omega
      refine ⟨i1, fun o o1 o2 => (gui_n o2).trans ((gui_n o1).trans (i2 o o1 o2)), fun i hi => ⟨?_, ?_⟩⟩
      · rw [gui_n (by omega), gui_s]
        by_cases q : i = b
        · rw [q, up1_s]
        · rw [up1_n q]; exact (i3 i (by omega)).1
      · rw [gui_s]
        by_cases q : i = b
        · rw [q, up1_s]; rfl
        · rw [up1_n q, gui_n (by omega)]; exact (i3 i (by omega)).2
