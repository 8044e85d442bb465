/-! the law's loop -/
theorem and63 (x : Int) : 0 ≤ (zI x &&& zI 63).toInt ∧ (zI x &&& zI 63).toInt ≤ 63 := by
  have e : (zI 63).toBitVec.toNat = 63 := by decide
  have h : ((zI x &&& zI 63).toBitVec).toNat = (zI x).toBitVec.toNat % 64 := by
    rw [Int32.toBitVec_and, BitVec.toNat_and, e]
    exact Nat.and_two_pow_sub_one_eq_mod _ 6
  have h2 : (zI x &&& zI 63).toInt = (((zI x).toBitVec.toNat % 64 : Nat) : Int) := by
    show (zI x &&& zI 63).toBitVec.toInt = _
    rw [BitVec.toInt_eq_toNat_cond, h, if_pos (by omega)]
  omega
theorem lw_end {L : Nat} {xs : Nat → Int32} {κ σ : Nat} {ls : List (Option Value)} {h : gH} (hκ : κ ≤ 601024) (hσ : σ ≤ 7293034) : gK L xs κ σ 1888 ls [] h := by
  refine gk_iconst (pc' := 1889) dL_law_1888 rfl ?_
  intro p l e s m args below meth c D aC ad C H locs lsA hP hS hL
  obtain ⟨hx, hb, hml, hr, hown, hts, hlocks, hK, hinj, hX⟩ := id C.1
  obtain ⟨rfl, a2, a3, a4⟩ := id C.2.1
  exact W.widen hκ hσ (va_forget (fun q hq => lA a4 (hS.2.2 q hq)) (lw_ret hx hb hr hlocks dL_law_1889))
theorem lw_turn {L : Nat} {xs : Nat → Int32} {κ σ i : Nat} {h : gH} {k : Nat} (hk : k ≤ 63) (hi : i + 6 ≤ L) (hL3 : L ≤ 3072) (hκ : κ + 2 ≤ 601024) (hσ : σ + 20 ≤ 7293034) (hI : LI2 h) (K : ∀ h', LI2 h' → gK L xs (κ + 2) (σ + 20) 1882 [some (.ref 2000), some (.ref 0), some (.ref 142), some (.ref 156), some (.int (zI (i : Int))), none, none] [] h') : gK L xs κ σ 40 [some (.ref 2000), some (.ref 0), some (.ref 142), some (.ref 156), some (.int (zI (i : Int))), none, none] [.int (zI (k : Int))] h := by
  match k, hk with
  | 0, _ => exact gk_tabIn (off := 240) (pc' := 280) dL_law_40 (by decide) (by decide) (by decide) (by rfl) (by decide) (lk_0 hi hL3 hκ hσ hI K)
  | 1, _ => exact gk_tabIn (off := 313) (pc' := 353) dL_law_40 (by decide) (by decide) (by decide) (by rfl) (by decide) (lk_1 hi hL3 hκ hσ hI K)
  | 2, _ => exact gk_tabIn (off := 338) (pc' := 378) dL_law_40 (by decide) (by decide) (by decide) (by rfl) (by decide) (lk_2 hi hL3 hκ hσ hI K)
  | 3, _ => exact gk_tabIn (off := 351) (pc' := 391) dL_law_40 (by decide) (by decide) (by decide) (by rfl) (by decide) (lk_3 hi hL3 hκ hσ hI K)
  | 4, _ => exact gk_tabIn (off := 364) (pc' := 404) dL_law_40 (by decide) (by decide) (by decide) (by rfl) (by decide) (lk_4 hi hL3 hκ hσ hI K)
  | 5, _ => exact gk_tabIn (off := 401) (pc' := 441) dL_law_40 (by decide) (by decide) (by decide) (by rfl) (by decide) (lk_5 hi hL3 hκ hσ hI K)
  | 6, _ => exact gk_tabIn (off := 438) (pc' := 478) dL_law_40 (by decide) (by decide) (by decide) (by rfl) (by decide) (lk_6 hi hL3 hκ hσ hI K)
  | 7, _ => exact gk_tabIn (off := 475) (pc' := 515) dL_law_40 (by decide) (by decide) (by decide) (by rfl) (by decide) (lk_7 hi hL3 hκ hσ hI K)
  | 8, _ => exact gk_tabIn (off := 488) (pc' := 528) dL_law_40 (by decide) (by decide) (by decide) (by rfl) (by decide) (lk_8 hi hL3 hκ hσ hI K)
  | 9, _ => exact gk_tabIn (off := 501) (pc' := 541) dL_law_40 (by decide) (by decide) (by decide) (by rfl) (by decide) (lk_9 hi hL3 hκ hσ hI K)
  | 10, _ => exact gk_tabIn (off := 514) (pc' := 554) dL_law_40 (by decide) (by decide) (by decide) (by rfl) (by decide) (lk_10 hi hL3 hκ hσ hI K)
  | 11, _ => exact gk_tabIn (off := 551) (pc' := 591) dL_law_40 (by decide) (by decide) (by decide) (by rfl) (by decide) (lk_11 hi hL3 hκ hσ hI K)
  | 12, _ => exact gk_tabIn (off := 588) (pc' := 628) dL_law_40 (by decide) (by decide) (by decide) (by rfl) (by decide) (lk_12 hi hL3 hκ hσ hI K)
  | 13, _ => exact gk_tabIn (off := 625) (pc' := 665) dL_law_40 (by decide) (by decide) (by decide) (by rfl) (by decide) (lk_13 hi hL3 hκ hσ hI K)
  | 14, _ => exact gk_tabIn (off := 650) (pc' := 690) dL_law_40 (by decide) (by decide) (by decide) (by rfl) (by decide) (lk_14 hi hL3 hκ hσ hI K)
  | 15, _ => exact gk_tabIn (off := 663) (pc' := 703) dL_law_40 (by decide) (by decide) (by decide) (by rfl) (by decide) (lk_15 hi hL3 hκ hσ hI K)
  | 16, _ => exact gk_tabIn (off := 688) (pc' := 728) dL_law_40 (by decide) (by decide) (by decide) (by rfl) (by decide) (lk_16 hi hL3 hκ hσ hI K)
  | 17, _ => exact gk_tabIn (off := 701) (pc' := 741) dL_law_40 (by decide) (by decide) (by decide) (by rfl) (by decide) (lk_17 hi hL3 hκ hσ hI K)
  | 18, _ => exact gk_tabIn (off := 726) (pc' := 766) dL_law_40 (by decide) (by decide) (by decide) (by rfl) (by decide) (lk_18 hi hL3 hκ hσ hI K)
  | 19, _ => exact gk_tabIn (off := 763) (pc' := 803) dL_law_40 (by decide) (by decide) (by decide) (by rfl) (by decide) (lk_19 hi hL3 hκ hσ hI K)
  | 20, _ => exact gk_tabIn (off := 788) (pc' := 828) dL_law_40 (by decide) (by decide) (by decide) (by rfl) (by decide) (lk_20 hi hL3 hκ hσ hI K)
  | 21, _ => exact gk_tabIn (off := 801) (pc' := 841) dL_law_40 (by decide) (by decide) (by decide) (by rfl) (by decide) (lk_21 hi hL3 hκ hσ hI K)
  | 22, _ => exact gk_tabIn (off := 814) (pc' := 854) dL_law_40 (by decide) (by decide) (by decide) (by rfl) (by decide) (lk_22 hi hL3 hκ hσ hI K)
  | 23, _ => exact gk_tabIn (off := 839) (pc' := 879) dL_law_40 (by decide) (by decide) (by decide) (by rfl) (by decide) (lk_23 hi hL3 hκ hσ hI K)
  | 24, _ => exact gk_tabIn (off := 852) (pc' := 892) dL_law_40 (by decide) (by decide) (by decide) (by rfl) (by decide) (lk_24 hi hL3 hκ hσ hI K)
  | 25, _ => exact gk_tabIn (off := 877) (pc' := 917) dL_law_40 (by decide) (by decide) (by decide) (by rfl) (by decide) (lk_25 hi hL3 hκ hσ hI K)
  | 26, _ => exact gk_tabIn (off := 902) (pc' := 942) dL_law_40 (by decide) (by decide) (by decide) (by rfl) (by decide) (lk_26 hi hL3 hκ hσ hI K)
  | 27, _ => exact gk_tabIn (off := 927) (pc' := 967) dL_law_40 (by decide) (by decide) (by decide) (by rfl) (by decide) (lk_27 hi hL3 hκ hσ hI K)
  | 28, _ => exact gk_tabIn (off := 964) (pc' := 1004) dL_law_40 (by decide) (by decide) (by decide) (by rfl) (by decide) (lk_28 hi hL3 hκ hσ hI K)
  | 29, _ => exact gk_tabIn (off := 989) (pc' := 1029) dL_law_40 (by decide) (by decide) (by decide) (by rfl) (by decide) (lk_29 hi hL3 hκ hσ hI K)
  | 30, _ => exact gk_tabIn (off := 1002) (pc' := 1042) dL_law_40 (by decide) (by decide) (by decide) (by rfl) (by decide) (lk_30 hi hL3 hκ hσ hI K)
  | 31, _ => exact gk_tabIn (off := 1039) (pc' := 1079) dL_law_40 (by decide) (by decide) (by decide) (by rfl) (by decide) (lk_31 hi hL3 hκ hσ hI K)
  | 32, _ => exact gk_tabIn (off := 1064) (pc' := 1104) dL_law_40 (by decide) (by decide) (by decide) (by rfl) (by decide) (lk_32 hi hL3 hκ hσ hI K)
  | 33, _ => exact gk_tabIn (off := 1077) (pc' := 1117) dL_law_40 (by decide) (by decide) (by decide) (by rfl) (by decide) (lk_33 hi hL3 hκ hσ hI K)
  | 34, _ => exact gk_tabIn (off := 1114) (pc' := 1154) dL_law_40 (by decide) (by decide) (by decide) (by rfl) (by decide) (lk_34 hi hL3 hκ hσ hI K)
  | 35, _ => exact gk_tabIn (off := 1139) (pc' := 1179) dL_law_40 (by decide) (by decide) (by decide) (by rfl) (by decide) (lk_35 hi hL3 hκ hσ hI K)
  | 36, _ => exact gk_tabIn (off := 1164) (pc' := 1204) dL_law_40 (by decide) (by decide) (by decide) (by rfl) (by decide) (lk_36 hi hL3 hκ hσ hI K)
  | 37, _ => exact gk_tabIn (off := 1177) (pc' := 1217) dL_law_40 (by decide) (by decide) (by decide) (by rfl) (by decide) (lk_37 hi hL3 hκ hσ hI K)
  | 38, _ => exact gk_tabIn (off := 1190) (pc' := 1230) dL_law_40 (by decide) (by decide) (by decide) (by rfl) (by decide) (lk_38 hi hL3 hκ hσ hI K)
  | 39, _ => exact gk_tabIn (off := 1203) (pc' := 1243) dL_law_40 (by decide) (by decide) (by decide) (by rfl) (by decide) (lk_39 hi hL3 hκ hσ hI K)
  | 40, _ => exact gk_tabIn (off := 1312) (pc' := 1352) dL_law_40 (by decide) (by decide) (by decide) (by rfl) (by decide) (lk_40 hi hL3 hκ hσ hI K)
  | 41, _ => exact gk_tabIn (off := 1337) (pc' := 1377) dL_law_40 (by decide) (by decide) (by decide) (by rfl) (by decide) (lk_41 hi hL3 hκ hσ hI K)
  | 42, _ => exact gk_tabIn (off := 1362) (pc' := 1402) dL_law_40 (by decide) (by decide) (by decide) (by rfl) (by decide) (lk_42 hi hL3 hκ hσ hI K)
  | 43, _ => exact gk_tabIn (off := 1428) (pc' := 1468) dL_law_40 (by decide) (by decide) (by decide) (by rfl) (by decide) (lk_43 hi hL3 hκ hσ hI K)
  | 44, _ => exact gk_tabIn (off := 1494) (pc' := 1534) dL_law_40 (by decide) (by decide) (by decide) (by rfl) (by decide) (lk_44 hi hL3 hκ hσ hI K)
  | 45, _ => exact gk_tabIn (off := 1548) (pc' := 1588) dL_law_40 (by decide) (by decide) (by decide) (by rfl) (by decide) (lk_45 hi hL3 hκ hσ hI K)
  | 46, _ => exact gk_tabIn (off := 1585) (pc' := 1625) dL_law_40 (by decide) (by decide) (by decide) (by rfl) (by decide) (lk_46 hi hL3 hκ hσ hI K)
  | 47, _ => exact gk_tabIn (off := 1610) (pc' := 1650) dL_law_40 (by decide) (by decide) (by decide) (by rfl) (by decide) (lk_47 hi hL3 hκ hσ hI K)
  | 48, _ => exact gk_tabIn (off := 1623) (pc' := 1663) dL_law_40 (by decide) (by decide) (by decide) (by rfl) (by decide) (lk_48 hi hL3 hκ hσ hI K)
  | 49, _ => exact gk_tabIn (off := 1660) (pc' := 1700) dL_law_40 (by decide) (by decide) (by decide) (by rfl) (by decide) (lk_49 hi hL3 hκ hσ hI K)
  | 50, _ => exact gk_tabIn (off := 1697) (pc' := 1737) dL_law_40 (by decide) (by decide) (by decide) (by rfl) (by decide) (lk_50 hi hL3 hκ hσ hI K)
  | 51, _ => exact gk_tabIn (off := 1710) (pc' := 1750) dL_law_40 (by decide) (by decide) (by decide) (by rfl) (by decide) (lk_51 hi hL3 hκ hσ hI K)
  | 52, _ => exact gk_tabIn (off := 1723) (pc' := 1763) dL_law_40 (by decide) (by decide) (by decide) (by rfl) (by decide) (lk_52 hi hL3 hκ hσ hI K)
  | 53, _ => exact gk_tabIn (off := 1748) (pc' := 1788) dL_law_40 (by decide) (by decide) (by decide) (by rfl) (by decide) (lk_53 hi hL3 hκ hσ hI K)
  | 54, _ => exact gk_tabIn (off := 1804) (pc' := 1844) dL_law_40 (by decide) (by decide) (by decide) (by rfl) (by decide) (lk_54 hi hL3 hκ hσ hI K)
  | 55, _ => exact gk_tabIn (off := 1829) (pc' := 1869) dL_law_40 (by decide) (by decide) (by decide) (by rfl) (by decide) (lk_55 hi hL3 hκ hσ hI K)
  | k + 56, hk => exact gk_tabOut (pc' := 1882) dL_law_40 (by omega) (Or.inr (by omega)) (by decide) (gk_widen (by omega) (by omega) (K h hI))
theorem lw_loop {L : Nat} {xs : Nat → Int32} (hL3 : L ≤ 3072) : ∀ (r i κ σ : Nat) (h : gH), L < i + 6 * r + 6 → i ≤ L + 6 → κ + 2 * r + 2 ≤ 601024 → σ + 20 * r + 20 ≤ 7293034 → LI2 h → gK L xs κ σ 23 [some (.ref 2000), some (.ref 0), some (.ref 142), some (.ref 156), some (.int (zI (i : Int))), none, none] [] h := by
  intro r
  induction r with
  | zero =>
    intro i κ σ h h1 h2 hκ hσ hI
    refine gk_iload (pc' := 25) dL_law_23 rfl rfl ?_
    refine gk_aload_n (pc' := 26) dL_law_25 rfl rfl ?_
    refine gk_slen (pc' := 27) dL_law_26 rfl ?_
    refine gk_bipush (pc' := 29) dL_law_27 rfl (by decide) ?_
    refine gk_isub (pc' := 30) dL_law_29 rfl ?_
    refine gk_icmp_gt (pc' := 33) (tgt := 1888) dL_law_30 (by decide) rfl (by omega) (fun _ => lw_end (by omega) (by omega)) (fun z => ?_)
    exfalso; omega
  | succ r ih =>
    intro i κ σ h h1 h2 hκ hσ hI
    refine gk_iload (pc' := 25) dL_law_23 rfl rfl ?_
    refine gk_aload_n (pc' := 26) dL_law_25 rfl rfl ?_
    refine gk_slen (pc' := 27) dL_law_26 rfl ?_
    refine gk_bipush (pc' := 29) dL_law_27 rfl (by decide) ?_
    refine gk_isub (pc' := 30) dL_law_29 rfl ?_
    refine gk_icmp_gt (pc' := 33) (tgt := 1888) dL_law_30 (by decide) rfl (by omega) (fun _ => lw_end (by omega) (by omega)) (fun z => ?_)
    refine gk_aload_n (pc' := 34) dL_law_33 rfl rfl ?_
    refine gk_iload (pc' := 36) dL_law_34 rfl rfl ?_
    refine gk_sld (pc' := 37) (j := i) rfl (by omega) hL3 dL_law_36 rfl ?_
    refine gk_bipush (pc' := 39) dL_law_37 rfl (by decide) ?_
    refine gk_iand (pc' := 40) dL_law_39 rfl ?_
    have hz := and63 (xZ xs i)
    obtain ⟨k, hk⟩ : ∃ k : Nat, (zI (xZ xs i) &&& zI 63).toInt = (k : Int) := ⟨_, (Int.toNat_of_nonneg hz.1).symm⟩
    rw [hk]
    refine lw_turn (by omega) (by omega) hL3 (by omega) (by omega) hI (fun h' hI' => ?_)
    refine gk_iinc (pc' := 1885) (a := (i : Int)) dL_law_1882 rfl rfl (by decide) ?_
    refine gk_goto (pc' := 23) dL_law_1885 (by decide) ?_
    exact gk_wk (ih (i + 6) (κ + 2) (σ + 20) h' (by omega) (by omega) (by omega) (by omega) hI') (by exact ⟨rfl, rfl, rfl, rfl, rfl, True.intro⟩)
