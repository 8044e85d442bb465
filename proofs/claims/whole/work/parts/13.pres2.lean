/-! Present's reads, folds over houses and days -/
/-- the first place of the greatest -/
def aMax (g : Nat → Nat) (n : Nat) : Nat := fN (fun k x => if g x < g k then k else x) 0 n
theorem aMax_s (g : Nat → Nat) (n : Nat) : aMax g (n + 1) = if g (aMax g n) < g n then n else aMax g n := rfl
theorem aMax_lt (g : Nat → Nat) : ∀ n, 0 < n → aMax g n < n
  | 0, h => absurd h (by omega)
  | n + 1, _ => by
    rw [aMax_s]
    split
    · omega
    · rcases Nat.eq_zero_or_pos n with q | q
      · subst q; exact Nat.zero_lt_one
      · have := aMax_lt g n q; omega
theorem aMax_1 (g : Nat → Nat) : aMax g 1 = 0 := by
  rw [aMax_s]
  exact if_neg (Nat.lt_irrefl _)
theorem pc_lt {p : Nat → Bool} {n : Nat} (hn : n ≤ 7) : bN p n < 256 := Nat.lt_of_lt_of_le (bN_lt p n) (by have : 2 ^ n ≤ 2 ^ 7 := Nat.pow_le_pow_right (by omega) hn; omega)
def sMany (T S : Nat → Nat) (h day : Nat) : Nat := pcN (sSet T S h day)
def sOwe (T S : Nat → Nat) (h : Nat) : Nat := sN (fun b => if sFor T S h b then tLe T S b else 0) (T 4)
def sFeud (T S : Nat → Nat) (h o : Nat) : Nat := sN (fun b => if T (20 + 5 * b) = h ∧ sFor T S o b = true then tLe T S b else 0) (T 4)
theorem s_fullest {h : gH} {t : Nat} {T S : Nat → Nat} (hI : CI h t T S) : gSp 6 yX3_fullestHouse cX3_fullestHouse 6 (some .int) [.ref 52, .ref t] h (gR (.int (zI (aMax (fun k => sMany T S k (S 20)) (T 3) : Nat))) h) := by
  obtain ⟨ht, hP, hT, hS, hA, hB, hN⟩ := id hI
  obtain ⟨s0, -⟩ := shT ht
  have h4 : T 4 ≤ 7 := hT.2.2.2.2.1
  have h3 := hT.2.2.2.1
  have hw : h.1 t 3 = (T 3 : Int) := hA.1 3 (by omega)
  have hd := hS.2.2.1
  refine gSp_of (by decide +kernel) (Nat.le_of_ble_eq_true rfl) ?_
  show gJ RX3 cX3_fullestHouse 6 (some .int) _ 0 [some (.ref 52), some (.ref t), none, none, none, none] [] _ _
  refine gj_iconst (pc' := 1) dX3_fullestHouse_0 rfl ?_
  refine gj_istore_n (pc' := 2) dX3_fullestHouse_1 rfl (by decide) ?_
  refine gj_iconst (pc' := 3) dX3_fullestHouse_2 rfl ?_
  refine gj_istore_n (pc' := 4) dX3_fullestHouse_3 rfl (by decide) ?_
  refine gj_iconst (pc' := 5) dX3_fullestHouse_4 rfl ?_
  refine gj_istore (pc' := 7) dX3_fullestHouse_5 rfl (by decide) ?_
  refine gJ_wk (gJ_fI2 (L := fun b x y => [some (.ref 52), some (.ref t), some (.int (zI x)), some (.int (zI y)), some (.int (zI (b : Int))), none]) (I := fun b x y => (b = 0 → x = 0 ∧ y = 0) ∧ (0 < b → x = ((aMax (fun k => sMany T S k (S 20)) b : Nat) : Int) ∧ y = ((sMany T S (aMax (fun k => sMany T S k (S 20)) b) (S 20) : Nat) : Int))) (T 3) (fun b x y hb_b iv_b ih_b => ?step_1) (0) (Nat.zero_le _) ?x0_1 ?y0_1 ?iv0_1) ?ll0_1
  case ll0_1 =>
    repeat' (first | exact True.intro | with_reducible exact rfl | refine And.intro ?_ ?_ | refine vI ?_ | refine vL ?_)
    all_goals first | rfl | omega
  case iv0_1 =>
    exact ⟨fun _ => ⟨rfl, rfl⟩, fun q => absurd q (by omega)⟩
  have es := aMax_s (fun k => sMany T S k (S 20)) b
  have l1 : sMany T S b (S 20) ≤ 8 := pcN_le _
  have l2 : sMany T S (aMax (fun k => sMany T S k (S 20)) b) (S 20) ≤ 8 := pcN_le _
  have lx : 0 ≤ y ∧ y ≤ 8 := by rcases Nat.eq_zero_or_pos b with q | q; (have := iv_b.1 q; omega); (have := iv_b.2 q; omega)
  refine gj_iload (pc' := 9) dX3_fullestHouse_7 rfl rfl ?_
  refine gj_aload_n (pc' := 10) dX3_fullestHouse_9 rfl rfl ?_
  refine gf_X3_71 (pc' := 13) dX3_fullestHouse_10 rfl (by first | rfl | assumption) rfl ?_
  rw [hw]
  refine gj_icmp_ge (pc' := 16) (tgt := 50) dX3_fullestHouse_13 (by decide) rfl (by omega) (fun c13 => ?_) (fun c13 => ?_)
  · refine gj_iload_n (pc' := 51) dX3_fullestHouse_50 rfl rfl ?_
    refine gj_iret rfl dX3_fullestHouse_51 ?_
    exact gR_i (by have := iv_b.2 (by omega); rw [show T 3 = b by omega]; exact this.1)
  · refine gj_aload_n (pc' := 17) dX3_fullestHouse_16 rfl rfl ?_
    refine gj_aload_n (pc' := 18) dX3_fullestHouse_17 rfl rfl ?_
    refine gj_iload (pc' := 20) dX3_fullestHouse_18 rfl rfl ?_
    refine gj_aload_n (pc' := 21) dX3_fullestHouse_20 rfl rfl ?_
    refine gf_X3_23 (pc' := 24) dX3_fullestHouse_21 rfl (by first | rfl | assumption) rfl ?_
    rw [hN.1]
    refine gr_X3_74 (pc' := 27) dX3_fullestHouse_24 rfl (s_sitters hI (by omega) (by omega)) rfl (by first | rfl | assumption) (by decide) rfl (Nat.le_of_ble_eq_true rfl) ?_
    refine gr_X3_77 (pc' := 30) dX3_fullestHouse_27 rfl (s_bitCount (pc_lt h4)) rfl (by decide) rfl (Nat.le_of_ble_eq_true rfl) ?_
    change gJ _ _ _ _ _ _ _ (.int (zI ((sMany T S b (S 20) : Nat) : Int)) :: _) _ _
    refine gj_istore (pc' := 32) dX3_fullestHouse_30 rfl (by decide) ?_
    refine gj_iload (pc' := 34) dX3_fullestHouse_32 rfl rfl ?_
    refine gj_iload_n (pc' := 35) dX3_fullestHouse_34 rfl rfl ?_
    refine gj_icmp_le (pc' := 38) (tgt := 44) dX3_fullestHouse_35 (by decide) rfl (by omega) (fun c35 => ?_) (fun c35 => ?_)
    · refine gj_iinc (pc' := 47) dX3_fullestHouse_44 rfl rfl (by decide) ?_
      refine gj_goto (pc' := 7) dX3_fullestHouse_47 (by decide) ?_
      refine gJ_wk (ih_b ?x_2 ?y_2 (by omega) ?iv_2) ?ll_2
      case ll_2 =>
        repeat' (first | exact True.intro | with_reducible exact rfl | refine And.intro ?_ ?_ | refine vI ?_ | refine vL ?_)
        all_goals omega
      obtain ⟨i0, i1⟩ := iv_b
      refine ⟨fun q => by omega, fun _ => ?_⟩
      rcases Nat.eq_zero_or_pos b with q | q
      · obtain ⟨e1, e2⟩ := i0 q
        subst q
        rw [show aMax (fun k => sMany T S k (S 20)) (0 + 1) = 0 from aMax_1 _]
        exact ⟨by omega, by omega⟩
      · obtain ⟨e1, e2⟩ := i1 q
        rw [es]
        first | rw [if_pos (by omega)]; exact ⟨by omega, by omega⟩ | rw [if_neg (by omega)]; exact ⟨by omega, by omega⟩
    · refine gj_iload (pc' := 40) dX3_fullestHouse_38 rfl rfl ?_
      refine gj_istore_n (pc' := 41) dX3_fullestHouse_40 rfl (by decide) ?_
      refine gj_iload (pc' := 43) dX3_fullestHouse_41 rfl rfl ?_
      refine gj_istore_n (pc' := 44) dX3_fullestHouse_43 rfl (by decide) ?_
      refine gj_iinc (pc' := 47) dX3_fullestHouse_44 rfl rfl (by decide) ?_
      refine gj_goto (pc' := 7) dX3_fullestHouse_47 (by decide) ?_
      refine gJ_wk (ih_b ?x_3 ?y_3 (by omega) ?iv_3) ?ll_3
      case ll_3 =>
        repeat' (first | exact True.intro | with_reducible exact rfl | refine And.intro ?_ ?_ | refine vI ?_ | refine vL ?_)
        all_goals omega
      obtain ⟨i0, i1⟩ := iv_b
      refine ⟨fun q => by omega, fun _ => ?_⟩
      rcases Nat.eq_zero_or_pos b with q | q
      · obtain ⟨e1, e2⟩ := i0 q
        subst q
        rw [show aMax (fun k => sMany T S k (S 20)) (0 + 1) = 0 from aMax_1 _]
        exact ⟨by omega, by omega⟩
      · obtain ⟨e1, e2⟩ := i1 q
        rw [es]
        first | rw [if_pos (by omega)]; exact ⟨by omega, by omega⟩ | rw [if_neg (by omega)]; exact ⟨by omega, by omega⟩

def wIn (T S : Nat → Nat) (n : Nat) (p : Nat × Nat) (j : Nat) : Nat × Nat := fN (fun k p => if p.2 < sMany T S k (S 20 + n) then (n, sMany T S k (S 20 + n)) else p) p j
def wOut (T S : Nat → Nat) (n : Nat) : Nat × Nat := fN (fun n p => wIn T S n p (T 3)) (0, 0) n
theorem wIn_s (T S : Nat → Nat) (n : Nat) (p : Nat × Nat) (j : Nat) : wIn T S n p (j + 1) = if (wIn T S n p j).2 < sMany T S j (S 20 + n) then (n, sMany T S j (S 20 + n)) else wIn T S n p j := rfl
theorem wOut_s (T S : Nat → Nat) (n : Nat) : wOut T S (n + 1) = wIn T S n (wOut T S n) (T 3) := rfl
theorem wIn_le {T S : Nat → Nat} {n : Nat} {p : Nat × Nat} (hp : p.1 ≤ n ∧ p.2 ≤ 8) (j : Nat) : (wIn T S n p j).1 ≤ n ∧ (wIn T S n p j).2 ≤ 8 := by
  refine fN_inv (fun q : Nat × Nat => q.1 ≤ n ∧ q.2 ≤ 8) hp j (fun k x _ hx => ?_)
  show (if _ then _ else x).1 ≤ n ∧ (if _ then _ else x).2 ≤ 8
  split
  · exact ⟨Nat.le_refl _, pcN_le _⟩
  · exact hx
theorem wOut_le (T S : Nat → Nat) : ∀ n, (wOut T S n).1 ≤ n ∧ (wOut T S n).2 ≤ 8
  | 0 => ⟨Nat.le_refl _, Nat.zero_le _⟩
  | n + 1 => by
    have h := wOut_le T S n
    rw [wOut_s]
    have h2 := wIn_le (T := T) (S := S) (p := wOut T S n) (n := n) h (T 3)
    omega
theorem s_crowded {h : gH} {t : Nat} {T S : Nat → Nat} (hI : CI h t T S) : gSp 6 yX3_mostCrowded cX3_mostCrowded 8 (some .int) [.ref 52, .ref t, .int (zI 60)] h (gR (.int (zI ((wOut T S 61).1 : Nat))) h) := by
  obtain ⟨ht, hP, hT, hS, hA, hB, hN⟩ := id hI
  obtain ⟨s0, -⟩ := shT ht
  have h4 : T 4 ≤ 7 := hT.2.2.2.2.1
  have h3 : T 3 ≤ 6 := hT.2.2.2.1.2
  have hw : h.1 t 3 = (T 3 : Int) := hA.1 3 (by omega)
  have hd := hS.2.2.1
  refine gSp_of (by decide +kernel) (Nat.le_of_ble_eq_true rfl) ?_
  show gJ RX3 cX3_mostCrowded 8 (some .int) _ 0 [some (.ref 52), some (.ref t), some (.int (zI 60)), none, none, none, none, none] [] _ _
  refine gj_iconst (pc' := 1) dX3_mostCrowded_0 rfl ?_
  refine gj_istore_n (pc' := 2) dX3_mostCrowded_1 rfl (by decide) ?_
  refine gj_iconst (pc' := 3) dX3_mostCrowded_2 rfl ?_
  refine gj_istore (pc' := 5) dX3_mostCrowded_3 rfl (by decide) ?_
  refine gj_iconst (pc' := 6) dX3_mostCrowded_5 rfl ?_
  refine gj_istore (pc' := 8) dX3_mostCrowded_6 rfl (by decide) ?_
  refine gJ_wk (gJ_fI2 (L := fun n x y => [some (.ref 52), some (.ref t), some (.int (zI 60)), some (.int (zI x)), some (.int (zI y)), some (.int (zI (n : Int))), none, none]) (I := fun n x y => x = ((wOut T S n).1 : Int) ∧ y = ((wOut T S n).2 : Int)) (61) (fun n x y hb_n iv_n ih_n => ?step_1) (0) (Nat.zero_le _) ?x0_1 ?y0_1 ?iv0_1) ?ll0_1
  case ll0_1 =>
    repeat' (first | exact True.intro | with_reducible exact rfl | refine And.intro ?_ ?_ | refine vI ?_ | refine vL ?_)
    all_goals first | rfl | omega
  case iv0_1 =>
    exact ⟨rfl, rfl⟩
  have hx := wOut_le T S n
  refine gj_iload (pc' := 10) dX3_mostCrowded_8 rfl rfl ?_
  refine gj_iload_n (pc' := 11) dX3_mostCrowded_10 rfl rfl ?_
  refine gj_icmp_gt (pc' := 14) (tgt := 71) dX3_mostCrowded_11 (by decide) rfl (by omega) (fun c11 => ?_) (fun c11 => ?_)
  · refine gj_iload_n (pc' := 72) dX3_mostCrowded_71 rfl rfl ?_
    refine gj_iret rfl dX3_mostCrowded_72 ?_
    exact gR_i (by rw [show 61 = n by omega]; exact iv_n.1)
  · refine gj_iconst (pc' := 15) dX3_mostCrowded_14 rfl ?_
    refine gj_istore (pc' := 17) dX3_mostCrowded_15 rfl (by decide) ?_
    refine gJ_wk (gJ_fI2 (L := fun k x2 y2 => [some (.ref 52), some (.ref t), some (.int (zI 60)), some (.int (zI x2)), some (.int (zI y2)), some (.int (zI (n : Int))), some (.int (zI (k : Int))), none]) (I := fun k x2 y2 => x2 = ((wIn T S n (wOut T S n) k).1 : Int) ∧ y2 = ((wIn T S n (wOut T S n) k).2 : Int)) (T 3) (fun k x2 y2 hb_k iv_k ih_k => ?step_2) (0) (Nat.zero_le _) ?x20_2 ?y20_2 ?iv0_2) ?ll0_2
    case ll0_2 =>
      repeat' (first | exact True.intro | with_reducible exact rfl | refine And.intro ?_ ?_ | refine vI ?_ | refine vL ?_)
      all_goals first | rfl | omega
    case iv0_2 =>
      exact iv_n
    have es := wIn_s T S n (wOut T S n) k
    have l1 : sMany T S k (S 20 + n) ≤ 8 := pcN_le _
    have l2 := wIn_le (T := T) (S := S) (n := n) (p := wOut T S n) hx k
    refine gj_iload (pc' := 19) dX3_mostCrowded_17 rfl rfl ?_
    refine gj_aload_n (pc' := 20) dX3_mostCrowded_19 rfl rfl ?_
    refine gf_X3_71 (pc' := 23) dX3_mostCrowded_20 rfl (by first | rfl | assumption) rfl ?_
    rw [hw]
    refine gj_icmp_ge (pc' := 26) (tgt := 65) dX3_mostCrowded_23 (by decide) rfl (by omega) (fun c23 => ?_) (fun c23 => ?_)
    · refine gj_iinc (pc' := 68) dX3_mostCrowded_65 rfl rfl (by decide) ?_
      refine gj_goto (pc' := 8) dX3_mostCrowded_68 (by decide) ?_
      refine gJ_wk (ih_n ?x_3 ?y_3 (by omega) ?iv_3) ?ll_3
      case ll_3 =>
        repeat' (first | exact True.intro | with_reducible exact rfl | refine And.intro ?_ ?_ | refine vI ?_ | refine vL ?_)
        all_goals omega
      rw [wOut_s, show T 3 = k by omega]
      exact iv_k
    · refine gj_aload_n (pc' := 27) dX3_mostCrowded_26 rfl rfl ?_
      refine gj_aload_n (pc' := 28) dX3_mostCrowded_27 rfl rfl ?_
      refine gj_iload (pc' := 30) dX3_mostCrowded_28 rfl rfl ?_
      refine gj_aload_n (pc' := 31) dX3_mostCrowded_30 rfl rfl ?_
      refine gf_X3_23 (pc' := 34) dX3_mostCrowded_31 rfl (by first | rfl | assumption) rfl ?_
      rw [hN.1]
      refine gj_iload (pc' := 36) dX3_mostCrowded_34 rfl rfl ?_
      refine gj_iadd (pc' := 37) dX3_mostCrowded_36 rfl ?_
      rw [show ((S 20 : Int) + (n : Int)) = ((S 20 + n : Nat) : Int) by omega]
      refine gr_X3_74 (pc' := 40) dX3_mostCrowded_37 rfl (s_sitters hI (by omega) (by omega)) rfl (by first | rfl | assumption) (by decide) rfl (Nat.le_of_ble_eq_true rfl) ?_
      refine gr_X3_77 (pc' := 43) dX3_mostCrowded_40 rfl (s_bitCount (pc_lt h4)) rfl (by decide) rfl (Nat.le_of_ble_eq_true rfl) ?_
      change gJ _ _ _ _ _ _ _ (.int (zI ((sMany T S k (S 20 + n) : Nat) : Int)) :: _) _ _
      refine gj_istore (pc' := 45) dX3_mostCrowded_43 rfl (by decide) ?_
      refine gj_iload (pc' := 47) dX3_mostCrowded_45 rfl rfl ?_
      refine gj_iload (pc' := 49) dX3_mostCrowded_47 rfl rfl ?_
      refine gj_icmp_le (pc' := 52) (tgt := 59) dX3_mostCrowded_49 (by decide) rfl (by omega) (fun c49 => ?_) (fun c49 => ?_)
      · refine gj_iinc (pc' := 62) dX3_mostCrowded_59 rfl rfl (by decide) ?_
        refine gj_goto (pc' := 17) dX3_mostCrowded_62 (by decide) ?_
        refine gJ_wk (ih_k ?x2_4 ?y2_4 (by omega) ?iv_4) ?ll_4
        case ll_4 =>
          repeat' (first | exact True.intro | with_reducible exact rfl | refine And.intro ?_ ?_ | refine vI ?_ | refine vL ?_)
          all_goals omega
        rw [es]
        first | rw [if_pos (by omega)]; exact ⟨by omega, by omega⟩ | rw [if_neg (by omega)]; exact ⟨by omega, by omega⟩
      · refine gj_iload (pc' := 54) dX3_mostCrowded_52 rfl rfl ?_
        refine gj_istore_n (pc' := 55) dX3_mostCrowded_54 rfl (by decide) ?_
        refine gj_iload (pc' := 57) dX3_mostCrowded_55 rfl rfl ?_
        refine gj_istore (pc' := 59) dX3_mostCrowded_57 rfl (by decide) ?_
        refine gj_iinc (pc' := 62) dX3_mostCrowded_59 rfl rfl (by decide) ?_
        refine gj_goto (pc' := 17) dX3_mostCrowded_62 (by decide) ?_
        refine gJ_wk (ih_k ?x2_5 ?y2_5 (by omega) ?iv_5) ?ll_5
        case ll_5 =>
          repeat' (first | exact True.intro | with_reducible exact rfl | refine And.intro ?_ ?_ | refine vI ?_ | refine vL ?_)
          all_goals omega
        rw [es]
        first | rw [if_pos (by omega)]; exact ⟨by omega, by omega⟩ | rw [if_neg (by omega)]; exact ⟨by omega, by omega⟩
theorem s_emptyDays {h : gH} {t hs : Nat} {T S : Nat → Nat} (hI : CI h t T S) (hh : hs < 7) : gSp 6 yX3_emptyDays cX3_emptyDays 6 (some .int) [.ref 52, .ref t, .int (zI (hs : Int)), .int (zI 60)] h (gR (.int (zI (sN (fun n => if sSet T S hs (S 20 + n) = 0 then 1 else 0) 61 : Nat))) h) := by
  obtain ⟨ht, hP, hT, hS, hA, hB, hN⟩ := id hI
  have h4 : T 4 ≤ 7 := hT.2.2.2.2.1
  have hd := hS.2.2.1
  refine gSp_of (by decide +kernel) (Nat.le_of_ble_eq_true rfl) ?_
  show gJ RX3 cX3_emptyDays 6 (some .int) _ 0 [some (.ref 52), some (.ref t), some (.int (zI (hs : Int))), some (.int (zI 60)), none, none] [] _ _
  refine gj_iconst (pc' := 1) dX3_emptyDays_0 rfl ?_
  refine gj_istore (pc' := 3) dX3_emptyDays_1 rfl (by decide) ?_
  refine gj_iconst (pc' := 4) dX3_emptyDays_3 rfl ?_
  refine gj_istore (pc' := 6) dX3_emptyDays_4 rfl (by decide) ?_
  refine gJ_wk (gJ_for (L := fun n => [some (.ref 52), some (.ref t), some (.int (zI (hs : Int))), some (.int (zI 60)), some (.int (zI (sN (fun n => if sSet T S hs (S 20 + n) = 0 then 1 else 0) n : Nat))), some (.int (zI (n : Int)))]) (61) (fun n hb_n ih_n => ?_) (0) (Nat.zero_le _)) ?_
  · have es : sN (fun n => if sSet T S hs (S 20 + n) = 0 then 1 else 0) (n + 1) = sN (fun n => if sSet T S hs (S 20 + n) = 0 then 1 else 0) n + (if sSet T S hs (S 20 + n) = 0 then 1 else 0) := rfl
    have lb : sSet T S hs (S 20 + n) < 256 := pc_lt h4
    refine gj_iload (pc' := 8) dX3_emptyDays_6 rfl rfl ?_
    refine gj_iload_n (pc' := 9) dX3_emptyDays_8 rfl rfl ?_
    refine gj_icmp_gt (pc' := 12) (tgt := 37) dX3_emptyDays_9 (by decide) rfl (by omega) (fun c9 => ?_) (fun c9 => ?_)
    · refine gj_iload (pc' := 39) dX3_emptyDays_37 rfl rfl ?_
      refine gj_iret rfl dX3_emptyDays_39 ?_
      exact gR_i (by rw [show 61 = n by omega])
    · refine gj_aload_n (pc' := 13) dX3_emptyDays_12 rfl rfl ?_
      refine gj_aload_n (pc' := 14) dX3_emptyDays_13 rfl rfl ?_
      refine gj_iload_n (pc' := 15) dX3_emptyDays_14 rfl rfl ?_
      refine gj_aload_n (pc' := 16) dX3_emptyDays_15 rfl rfl ?_
      refine gf_X3_23 (pc' := 19) dX3_emptyDays_16 rfl (by first | rfl | assumption) rfl ?_
      rw [hN.1]
      refine gj_iload (pc' := 21) dX3_emptyDays_19 rfl rfl ?_
      refine gj_iadd (pc' := 22) dX3_emptyDays_21 rfl ?_
      rw [show ((S 20 : Int) + (n : Int)) = ((S 20 + n : Nat) : Int) by omega]
      refine gr_X3_74 (pc' := 25) dX3_emptyDays_22 rfl (s_sitters hI hh (by omega)) rfl (by first | rfl | assumption) (by decide) rfl (Nat.le_of_ble_eq_true rfl) ?_
      refine gj_if_ne (pc' := 28) (tgt := 31) dX3_emptyDays_25 (by decide) rfl (by omega) (fun c25 => ?_) (fun c25 => ?_)
      · refine gj_iinc (pc' := 34) dX3_emptyDays_31 rfl rfl (by decide) ?_
        refine gj_goto (pc' := 6) dX3_emptyDays_34 (by decide) ?_
        refine gJ_wk (ih_n (by omega)) ?_
        repeat' (first | exact True.intro | with_reducible exact rfl | refine And.intro ?_ ?_ | refine vI ?_ | refine vL ?_)
        all_goals first | omega | (rw [es]; first | rw [if_pos (by omega)]; omega | rw [if_neg (by omega)]; omega)
      · refine gj_iinc (pc' := 31) dX3_emptyDays_28 rfl rfl (by decide) ?_
        refine gj_iinc (pc' := 34) dX3_emptyDays_31 rfl rfl (by decide) ?_
        refine gj_goto (pc' := 6) dX3_emptyDays_34 (by decide) ?_
        refine gJ_wk (ih_n (by omega)) ?_
        repeat' (first | exact True.intro | with_reducible exact rfl | refine And.intro ?_ ?_ | refine vI ?_ | refine vL ?_)
        all_goals first | omega | (rw [es]; first | rw [if_pos (by omega)]; omega | rw [if_neg (by omega)]; omega)
  · repeat' (first | exact True.intro | with_reducible exact rfl | refine And.intro ?_ ?_ | refine vI ?_ | refine vL ?_)
    all_goals first | rfl | omega
theorem s_debt {h : gH} {t hs : Nat} {T S : Nat → Nat} (hI : CI h t T S) (hh : hs < 7) : gSp 2 yX3_debt cX3_debt 5 (some .int) [.ref 52, .ref t, .int (zI (hs : Int))] h (gR (.int (zI (sOwe T S hs : Nat))) h) := by
  obtain ⟨ht, hP, hT, hS, hA, hB, hN⟩ := id hI
  obtain ⟨s0, -, -, -, -, s5, -⟩ := shT ht
  have h4 : T 4 ≤ 7 := hT.2.2.2.2.1
  have h3 : T 3 ≤ 6 := hT.2.2.2.1.2
  have hw : h.1 t 4 = (T 4 : Int) := hA.1 4 (by omega)
  refine gSp_of (by decide +kernel) (Nat.le_of_ble_eq_true rfl) ?_
  show gJ RX3 cX3_debt 5 (some .int) _ 0 [some (.ref 52), some (.ref t), some (.int (zI (hs : Int))), none, none] [] _ _
  refine gj_iconst (pc' := 1) dX3_debt_0 rfl ?_
  refine gj_istore_n (pc' := 2) dX3_debt_1 rfl (by decide) ?_
  refine gj_iconst (pc' := 3) dX3_debt_2 rfl ?_
  refine gj_istore (pc' := 5) dX3_debt_3 rfl (by decide) ?_
  refine gJ_wk (gJ_for (L := fun b => [some (.ref 52), some (.ref t), some (.int (zI (hs : Int))), some (.int (zI (sN (fun b => if sFor T S hs b then tLe T S b else 0) b : Nat))), some (.int (zI (b : Int)))]) (T 4) (fun b hb_b ih_b => ?_) (0) (Nat.zero_le _)) ?_
  · have es : sN (fun b => if sFor T S hs b then tLe T S b else 0) (b + 1) = sN (fun b => if sFor T S hs b then tLe T S b else 0) b + (if sFor T S hs b then tLe T S b else 0) := rfl
    refine gj_iload (pc' := 7) dX3_debt_5 rfl rfl ?_
    refine gj_aload_n (pc' := 8) dX3_debt_7 rfl rfl ?_
    refine gf_X3_40 (pc' := 11) dX3_debt_8 rfl (by first | rfl | assumption) rfl ?_
    rw [hw]
    refine gj_icmp_ge (pc' := 14) (tgt := 50) dX3_debt_11 (by decide) rfl (by omega) (fun c11 => ?_) (fun c11 => ?_)
    · refine gj_iload_n (pc' := 51) dX3_debt_50 rfl rfl ?_
      refine gj_iret rfl dX3_debt_51 ?_
      exact gR_i (by rw [show b = T 4 by omega]; rfl)
    · refine gj_aload_n (pc' := 15) dX3_debt_14 rfl rfl ?_
      refine gf_X3_68 (pc' := 18) dX3_debt_15 rfl (by first | rfl | assumption) rfl ?_
      refine gj_iload (pc' := 20) dX3_debt_18 rfl rfl ?_
      refine gj_iald (pc' := 21) (by first | rfl | assumption) rfl (by omega) (by decide) dX3_debt_20 rfl ?_
      rw [(hA.2.2 b (by omega)).2.2.1]
      refine gj_iload_n (pc' := 22) dX3_debt_21 rfl rfl ?_
      refine gj_icmp_ne (pc' := 25) (tgt := 44) dX3_debt_22 (by decide) rfl (by have := hT.2.2.2.2.2.2.2.2.1 b (by omega); omega) (fun c22 => ?_) (fun c22 => ?_)
      · refine gj_iinc (pc' := 47) dX3_debt_44 rfl rfl (by decide) ?_
        refine gj_goto (pc' := 5) dX3_debt_47 (by decide) ?_
        refine gJ_wk (ih_b (by omega)) ?_
        repeat' (first | exact True.intro | with_reducible exact rfl | refine And.intro ?_ ?_ | refine vI ?_ | refine vL ?_)
        all_goals first | omega | (rw [es]; first | (rw [if_pos (by unfold sFor; rw [c31]; simp; omega)]; omega) | (rw [if_neg (by unfold sFor; rw [c31]; simp)]; omega) | (rw [if_neg (by unfold sFor; simp; intro q; omega)]; omega))
      · refine gj_aload_n (pc' := 26) dX3_debt_25 rfl rfl ?_
        refine gj_iload (pc' := 28) dX3_debt_26 rfl rfl ?_
        refine gr_X3_46 (pc' := 31) dX3_debt_28 rfl (s_isGone hI (by omega)) rfl (by first | rfl | assumption) (by decide) rfl (Nat.le_of_ble_eq_true rfl) ?_
        first | refine gj_ifB_ne (pc' := 34) (tgt := 44) dX3_debt_31 (by decide) rfl (fun c31 => ?_) (fun c31 => ?_) | refine gj_if_ne (pc' := 34) (tgt := 44) dX3_debt_31 (by decide) rfl (by omega) (fun c31 => ?_) (fun c31 => ?_)
        · refine gj_iinc (pc' := 47) dX3_debt_44 rfl rfl (by decide) ?_
          refine gj_goto (pc' := 5) dX3_debt_47 (by decide) ?_
          refine gJ_wk (ih_b (by omega)) ?_
          repeat' (first | exact True.intro | with_reducible exact rfl | refine And.intro ?_ ?_ | refine vI ?_ | refine vL ?_)
          all_goals first | omega | (rw [es]; first | (rw [if_pos (by unfold sFor; rw [c31]; simp; omega)]; omega) | (rw [if_neg (by unfold sFor; rw [c31]; simp)]; omega) | (rw [if_neg (by unfold sFor; simp; intro q; omega)]; omega))
        · refine gj_iload_n (pc' := 35) dX3_debt_34 rfl rfl ?_
          refine gj_aload_n (pc' := 36) dX3_debt_35 rfl rfl ?_
          refine gj_aload_n (pc' := 37) dX3_debt_36 rfl rfl ?_
          refine gj_iload (pc' := 39) dX3_debt_37 rfl rfl ?_
          refine gr_X3_101 (pc' := 42) dX3_debt_39 rfl (s_lacking hI (by omega)) rfl (by first | rfl | assumption) (by decide) rfl (Nat.le_of_ble_eq_true rfl) ?_
          refine gj_iadd (pc' := 43) dX3_debt_42 rfl ?_
          refine gj_istore_n (pc' := 44) dX3_debt_43 rfl (by decide) ?_
          refine gj_iinc (pc' := 47) dX3_debt_44 rfl rfl (by decide) ?_
          refine gj_goto (pc' := 5) dX3_debt_47 (by decide) ?_
          refine gJ_wk (ih_b (by omega)) ?_
          repeat' (first | exact True.intro | with_reducible exact rfl | refine And.intro ?_ ?_ | refine vI ?_ | refine vL ?_)
          all_goals first | omega | (rw [es]; first | (rw [if_pos (by unfold sFor; rw [c31]; simp; omega)]; omega) | (rw [if_neg (by unfold sFor; rw [c31]; simp)]; omega) | (rw [if_neg (by unfold sFor; simp; intro q; omega)]; omega))
  · repeat' (first | exact True.intro | with_reducible exact rfl | refine And.intro ?_ ?_ | refine vI ?_ | refine vL ?_)
    all_goals first | rfl | omega
theorem s_feud {h : gH} {t hs o : Nat} {T S : Nat → Nat} (hI : CI h t T S) (hh : hs < 7) (ho : o < 7) : gSp 2 yX3_grudges cX3_grudges 6 (some .int) [.ref 52, .ref t, .int (zI (hs : Int)), .int (zI (o : Int))] h (gR (.int (zI (sFeud T S hs o : Nat))) h) := by
  obtain ⟨ht, hP, hT, hS, hA, hB, hN⟩ := id hI
  obtain ⟨s0, -, -, -, s4, s5, -⟩ := shT ht
  have h4 : T 4 ≤ 7 := hT.2.2.2.2.1
  have h3 : T 3 ≤ 6 := hT.2.2.2.1.2
  have hw : h.1 t 4 = (T 4 : Int) := hA.1 4 (by omega)
  refine gSp_of (by decide +kernel) (Nat.le_of_ble_eq_true rfl) ?_
  show gJ RX3 cX3_grudges 6 (some .int) _ 0 [some (.ref 52), some (.ref t), some (.int (zI (hs : Int))), some (.int (zI (o : Int))), none, none] [] _ _
  refine gj_iconst (pc' := 1) dX3_grudges_0 rfl ?_
  refine gj_istore (pc' := 3) dX3_grudges_1 rfl (by decide) ?_
  refine gj_iconst (pc' := 4) dX3_grudges_3 rfl ?_
  refine gj_istore (pc' := 6) dX3_grudges_4 rfl (by decide) ?_
  refine gJ_wk (gJ_for (L := fun b => [some (.ref 52), some (.ref t), some (.int (zI (hs : Int))), some (.int (zI (o : Int))), some (.int (zI (sN (fun b => if T (20 + 5 * b) = hs ∧ sFor T S o b = true then tLe T S b else 0) b : Nat))), some (.int (zI (b : Int)))]) (T 4) (fun b hb_b ih_b => ?_) (0) (Nat.zero_le _)) ?_
  · have es : sN (fun b => if T (20 + 5 * b) = hs ∧ sFor T S o b = true then tLe T S b else 0) (b + 1) = sN (fun b => if T (20 + 5 * b) = hs ∧ sFor T S o b = true then tLe T S b else 0) b + (if T (20 + 5 * b) = hs ∧ sFor T S o b = true then tLe T S b else 0) := rfl
    refine gj_iload (pc' := 8) dX3_grudges_6 rfl rfl ?_
    refine gj_aload_n (pc' := 9) dX3_grudges_8 rfl rfl ?_
    refine gf_X3_40 (pc' := 12) dX3_grudges_9 rfl (by first | rfl | assumption) rfl ?_
    rw [hw]
    refine gj_icmp_ge (pc' := 15) (tgt := 64) dX3_grudges_12 (by decide) rfl (by omega) (fun c12 => ?_) (fun c12 => ?_)
    · refine gj_iload (pc' := 66) dX3_grudges_64 rfl rfl ?_
      refine gj_iret rfl dX3_grudges_66 ?_
      exact gR_i (by rw [show b = T 4 by omega]; rfl)
    · refine gj_aload_n (pc' := 16) dX3_grudges_15 rfl rfl ?_
      refine gf_X3_107 (pc' := 19) dX3_grudges_16 rfl (by first | rfl | assumption) rfl ?_
      refine gj_iload (pc' := 21) dX3_grudges_19 rfl rfl ?_
      refine gj_iald (pc' := 22) (by first | rfl | assumption) rfl (by omega) (by decide) dX3_grudges_21 rfl ?_
      rw [(hA.2.2 b (by omega)).2.1]
      refine gj_iload_n (pc' := 23) dX3_grudges_22 rfl rfl ?_
      refine gj_icmp_ne (pc' := 26) (tgt := 58) dX3_grudges_23 (by decide) rfl (by have := hT.2.2.2.2.2.2.2.2.1 b (by omega); omega) (fun c23 => ?_) (fun c23 => ?_)
      · refine gj_iinc (pc' := 61) dX3_grudges_58 rfl rfl (by decide) ?_
        refine gj_goto (pc' := 6) dX3_grudges_61 (by decide) ?_
        refine gJ_wk (ih_b (by omega)) ?_
        repeat' (first | exact True.intro | with_reducible exact rfl | refine And.intro ?_ ?_ | refine vI ?_ | refine vL ?_)
        all_goals first | omega | (rw [es]; first | (rw [if_pos ⟨by omega, by unfold sFor; rw [c43]; simp; omega⟩]; omega) | (rw [if_neg (by unfold sFor; rw [c43]; simp)]; omega) | (rw [if_neg (by unfold sFor; simp; intro q q2; omega)]; omega))
      · refine gj_aload_n (pc' := 27) dX3_grudges_26 rfl rfl ?_
        refine gf_X3_68 (pc' := 30) dX3_grudges_27 rfl (by first | rfl | assumption) rfl ?_
        refine gj_iload (pc' := 32) dX3_grudges_30 rfl rfl ?_
        refine gj_iald (pc' := 33) (by first | rfl | assumption) rfl (by omega) (by decide) dX3_grudges_32 rfl ?_
        rw [(hA.2.2 b (by omega)).2.2.1]
        refine gj_iload_n (pc' := 34) dX3_grudges_33 rfl rfl ?_
        refine gj_icmp_ne (pc' := 37) (tgt := 58) dX3_grudges_34 (by decide) rfl (by have := hT.2.2.2.2.2.2.2.2.1 b (by omega); omega) (fun c34 => ?_) (fun c34 => ?_)
        · refine gj_iinc (pc' := 61) dX3_grudges_58 rfl rfl (by decide) ?_
          refine gj_goto (pc' := 6) dX3_grudges_61 (by decide) ?_
          refine gJ_wk (ih_b (by omega)) ?_
          repeat' (first | exact True.intro | with_reducible exact rfl | refine And.intro ?_ ?_ | refine vI ?_ | refine vL ?_)
          all_goals first | omega | (rw [es]; first | (rw [if_pos ⟨by omega, by unfold sFor; rw [c43]; simp; omega⟩]; omega) | (rw [if_neg (by unfold sFor; rw [c43]; simp)]; omega) | (rw [if_neg (by unfold sFor; simp; intro q q2; omega)]; omega))
        · refine gj_aload_n (pc' := 38) dX3_grudges_37 rfl rfl ?_
          refine gj_iload (pc' := 40) dX3_grudges_38 rfl rfl ?_
          refine gr_X3_46 (pc' := 43) dX3_grudges_40 rfl (s_isGone hI (by omega)) rfl (by first | rfl | assumption) (by decide) rfl (Nat.le_of_ble_eq_true rfl) ?_
          first | refine gj_ifB_ne (pc' := 46) (tgt := 58) dX3_grudges_43 (by decide) rfl (fun c43 => ?_) (fun c43 => ?_) | refine gj_if_ne (pc' := 46) (tgt := 58) dX3_grudges_43 (by decide) rfl (by omega) (fun c43 => ?_) (fun c43 => ?_)
          · refine gj_iinc (pc' := 61) dX3_grudges_58 rfl rfl (by decide) ?_
            refine gj_goto (pc' := 6) dX3_grudges_61 (by decide) ?_
            refine gJ_wk (ih_b (by omega)) ?_
            repeat' (first | exact True.intro | with_reducible exact rfl | refine And.intro ?_ ?_ | refine vI ?_ | refine vL ?_)
            all_goals first | omega | (rw [es]; first | (rw [if_pos ⟨by omega, by unfold sFor; rw [c43]; simp; omega⟩]; omega) | (rw [if_neg (by unfold sFor; rw [c43]; simp)]; omega) | (rw [if_neg (by unfold sFor; simp; intro q q2; omega)]; omega))
          · refine gj_iload (pc' := 48) dX3_grudges_46 rfl rfl ?_
            refine gj_aload_n (pc' := 49) dX3_grudges_48 rfl rfl ?_
            refine gj_aload_n (pc' := 50) dX3_grudges_49 rfl rfl ?_
            refine gj_iload (pc' := 52) dX3_grudges_50 rfl rfl ?_
            refine gr_X3_101 (pc' := 55) dX3_grudges_52 rfl (s_lacking hI (by omega)) rfl (by first | rfl | assumption) (by decide) rfl (Nat.le_of_ble_eq_true rfl) ?_
            refine gj_iadd (pc' := 56) dX3_grudges_55 rfl ?_
            refine gj_istore (pc' := 58) dX3_grudges_56 rfl (by decide) ?_
            refine gj_iinc (pc' := 61) dX3_grudges_58 rfl rfl (by decide) ?_
            refine gj_goto (pc' := 6) dX3_grudges_61 (by decide) ?_
            refine gJ_wk (ih_b (by omega)) ?_
            repeat' (first | exact True.intro | with_reducible exact rfl | refine And.intro ?_ ?_ | refine vI ?_ | refine vL ?_)
            all_goals first | omega | (rw [es]; first | (rw [if_pos ⟨by omega, by unfold sFor; rw [c43]; simp; omega⟩]; omega) | (rw [if_neg (by unfold sFor; rw [c43]; simp)]; omega) | (rw [if_neg (by unfold sFor; simp; intro q q2; omega)]; omega))
  · repeat' (first | exact True.intro | with_reducible exact rfl | refine And.intro ?_ ?_ | refine vI ?_ | refine vL ?_)
    all_goals first | rfl | omega
theorem sOwe_le {T S : Nat → Nat} (hT : TV T) (h : Nat) : sOwe T S h ≤ 840 := by
  have h4 : T 4 ≤ 7 := hT.2.2.2.2.1
  have := sN_le (f := fun b => if sFor T S h b then tLe T S b else 0) (c := 120) (n := T 4) (fun i hi => by
    show (if _ then _ else _) ≤ 120
    split
    · exact tLe_le hT hi
    · omega)
  unfold sOwe
  omega
theorem s_inDebt {h : gH} {t : Nat} {T S : Nat → Nat} (hI : CI h t T S) : gSp 3 yX3_housesInDebt cX3_housesInDebt 4 (some .int) [.ref 52, .ref t] h (gR (.int (zI (bN (fun k => decide (S (13 + k) < sOwe T S k)) (T 3) : Nat))) h) := by
  obtain ⟨ht, hP, hT, hS, hA, hB, hN⟩ := id hI
  obtain ⟨s0, -⟩ := shT ht
  have h3 : T 3 ≤ 6 := hT.2.2.2.1.2
  have hw : h.1 t 3 = (T 3 : Int) := hA.1 3 (by omega)
  refine gSp_of (by decide +kernel) (Nat.le_of_ble_eq_true rfl) ?_
  show gJ RX3 cX3_housesInDebt 4 (some .int) _ 0 [some (.ref 52), some (.ref t), none, none] [] _ _
  refine gj_iconst (pc' := 1) dX3_housesInDebt_0 rfl ?_
  refine gj_istore_n (pc' := 2) dX3_housesInDebt_1 rfl (by decide) ?_
  refine gj_iconst (pc' := 3) dX3_housesInDebt_2 rfl ?_
  refine gj_istore_n (pc' := 4) dX3_housesInDebt_3 rfl (by decide) ?_
  refine gJ_wk (gJ_for (L := fun b => [some (.ref 52), some (.ref t), some (.int (zI ((bN (fun k => decide (S (13 + k) < sOwe T S k)) b : Nat) : Int))), some (.int (zI (b : Int)))]) (T 3) (fun b hb_b ih_b => ?_) (0) (Nat.zero_le _)) ?_
  · refine gj_iload_n (pc' := 5) dX3_housesInDebt_4 rfl rfl ?_
    refine gj_aload_n (pc' := 6) dX3_housesInDebt_5 rfl rfl ?_
    refine gf_X3_71 (pc' := 9) dX3_housesInDebt_6 rfl (by first | rfl | assumption) rfl ?_
    rw [hw]
    refine gj_icmp_ge (pc' := 12) (tgt := 39) dX3_housesInDebt_9 (by decide) rfl (by omega) (fun c9 => ?_) (fun c9 => ?_)
    · refine gj_iload_n (pc' := 40) dX3_housesInDebt_39 rfl rfl ?_
      refine gj_iret rfl dX3_housesInDebt_40 ?_
      exact gR_i (by rw [show b = T 3 by omega])
    · refine gj_aload_n (pc' := 13) dX3_housesInDebt_12 rfl rfl ?_
      refine gf_X3_11 (pc' := 16) dX3_housesInDebt_13 rfl (by first | rfl | assumption) rfl ?_
      refine gj_iload_n (pc' := 17) dX3_housesInDebt_16 rfl rfl ?_
      refine gj_iald (pc' := 18) (by first | rfl | assumption) rfl (by omega) (by decide) dX3_housesInDebt_17 rfl ?_
      rw [(hN.2.2.2.1 b (by omega)).1]
      refine gj_aload_n (pc' := 19) dX3_housesInDebt_18 rfl rfl ?_
      refine gj_aload_n (pc' := 20) dX3_housesInDebt_19 rfl rfl ?_
      refine gj_iload_n (pc' := 21) dX3_housesInDebt_20 rfl rfl ?_
      refine gr_X3_104 (pc' := 24) dX3_housesInDebt_21 rfl (s_debt hI (by omega)) rfl (by first | rfl | assumption) (by decide) rfl (Nat.le_of_ble_eq_true rfl) ?_
      refine gj_icmp_ge (pc' := 27) (tgt := 33) dX3_housesInDebt_24 (by decide) rfl (by have := hS.2.2.2.2 b (by omega); have := sOwe_le (S := S) hT b; omega) (fun c24 => ?_) (fun c24 => ?_)
      · refine gj_iinc (pc' := 36) dX3_housesInDebt_33 rfl rfl (by decide) ?_
        refine gj_goto (pc' := 4) dX3_housesInDebt_36 (by decide) ?_
        refine gJ_wk (ih_b (by omega)) ?_
        repeat' (first | exact True.intro | with_reducible exact rfl | refine And.intro ?_ ?_ | refine vI ?_ | refine vL ?_)
        all_goals first | omega | (rw [bN_t (by simp; omega)]) | (rw [bN_f (by simp; omega)])
      · refine gj_iload_n (pc' := 28) dX3_housesInDebt_27 rfl rfl ?_
        refine gj_iconst (pc' := 29) dX3_housesInDebt_28 rfl ?_
        refine gj_iload_n (pc' := 30) dX3_housesInDebt_29 rfl rfl ?_
        refine gj_ishl (pc' := 31) dX3_housesInDebt_30 rfl ?_
        rw [bt_shl1 (by omega)]
        refine gj_ior (pc' := 32) dX3_housesInDebt_31 rfl ?_
        rw [bN_orI (by omega)]
        refine gj_istore_n (pc' := 33) dX3_housesInDebt_32 rfl (by decide) ?_
        refine gj_iinc (pc' := 36) dX3_housesInDebt_33 rfl rfl (by decide) ?_
        refine gj_goto (pc' := 4) dX3_housesInDebt_36 (by decide) ?_
        refine gJ_wk (ih_b (by omega)) ?_
        repeat' (first | exact True.intro | with_reducible exact rfl | refine And.intro ?_ ?_ | refine vI ?_ | refine vL ?_)
        all_goals first | omega | (rw [bN_t (by simp; omega)]) | (rw [bN_f (by simp; omega)])
  · repeat' (first | exact True.intro | with_reducible exact rfl | refine And.intro ?_ ?_ | refine vI ?_ | refine vL ?_)
    all_goals first | rfl | omega
theorem s_clean {h : gH} {t : Nat} {T S : Nat → Nat} (hI : CI h t T S) : gSp 3 yX3_housesWithoutGrudge cX3_housesWithoutGrudge 4 (some .int) [.ref 52, .ref t] h (gR (.int (zI (bN (fun k => sAg T S k == 0) (T 3) : Nat))) h) := by
  obtain ⟨ht, hP, hT, hS, hA, hB, hN⟩ := id hI
  obtain ⟨s0, -⟩ := shT ht
  have h3 : T 3 ≤ 6 := hT.2.2.2.1.2
  have h4 : T 4 ≤ 7 := hT.2.2.2.2.1
  have hw : h.1 t 3 = (T 3 : Int) := hA.1 3 (by omega)
  refine gSp_of (by decide +kernel) (Nat.le_of_ble_eq_true rfl) ?_
  show gJ RX3 cX3_housesWithoutGrudge 4 (some .int) _ 0 [some (.ref 52), some (.ref t), none, none] [] _ _
  refine gj_iconst (pc' := 1) dX3_housesWithoutGrudge_0 rfl ?_
  refine gj_istore_n (pc' := 2) dX3_housesWithoutGrudge_1 rfl (by decide) ?_
  refine gj_iconst (pc' := 3) dX3_housesWithoutGrudge_2 rfl ?_
  refine gj_istore_n (pc' := 4) dX3_housesWithoutGrudge_3 rfl (by decide) ?_
  refine gJ_wk (gJ_for (L := fun b => [some (.ref 52), some (.ref t), some (.int (zI ((bN (fun k => sAg T S k == 0) b : Nat) : Int))), some (.int (zI (b : Int)))]) (T 3) (fun b hb_b ih_b => ?_) (0) (Nat.zero_le _)) ?_
  · have lb : sAg T S b < 256 := pc_lt h4
    refine gj_iload_n (pc' := 5) dX3_housesWithoutGrudge_4 rfl rfl ?_
    refine gj_aload_n (pc' := 6) dX3_housesWithoutGrudge_5 rfl rfl ?_
    refine gf_X3_71 (pc' := 9) dX3_housesWithoutGrudge_6 rfl (by first | rfl | assumption) rfl ?_
    rw [hw]
    refine gj_icmp_ge (pc' := 12) (tgt := 33) dX3_housesWithoutGrudge_9 (by decide) rfl (by omega) (fun c9 => ?_) (fun c9 => ?_)
    · refine gj_iload_n (pc' := 34) dX3_housesWithoutGrudge_33 rfl rfl ?_
      refine gj_iret rfl dX3_housesWithoutGrudge_34 ?_
      exact gR_i (by rw [show b = T 3 by omega])
    · refine gj_aload_n (pc' := 13) dX3_housesWithoutGrudge_12 rfl rfl ?_
      refine gj_aload_n (pc' := 14) dX3_housesWithoutGrudge_13 rfl rfl ?_
      refine gj_iload_n (pc' := 15) dX3_housesWithoutGrudge_14 rfl rfl ?_
      refine gr_X3_82 (pc' := 18) dX3_housesWithoutGrudge_15 rfl (s_birdsFor hI (by omega)) rfl (by first | rfl | assumption) (by decide) rfl (Nat.le_of_ble_eq_true rfl) ?_
      refine gj_if_ne (pc' := 21) (tgt := 27) dX3_housesWithoutGrudge_18 (by decide) rfl (by omega) (fun c18 => ?_) (fun c18 => ?_)
      · refine gj_iinc (pc' := 30) dX3_housesWithoutGrudge_27 rfl rfl (by decide) ?_
        refine gj_goto (pc' := 4) dX3_housesWithoutGrudge_30 (by decide) ?_
        refine gJ_wk (ih_b (by omega)) ?_
        repeat' (first | exact True.intro | with_reducible exact rfl | refine And.intro ?_ ?_ | refine vI ?_ | refine vL ?_)
        all_goals first | omega | (rw [bN_t (by simp; omega)]) | (rw [bN_f (by simp; omega)])
      · refine gj_iload_n (pc' := 22) dX3_housesWithoutGrudge_21 rfl rfl ?_
        refine gj_iconst (pc' := 23) dX3_housesWithoutGrudge_22 rfl ?_
        refine gj_iload_n (pc' := 24) dX3_housesWithoutGrudge_23 rfl rfl ?_
        refine gj_ishl (pc' := 25) dX3_housesWithoutGrudge_24 rfl ?_
        rw [bt_shl1 (by omega)]
        refine gj_ior (pc' := 26) dX3_housesWithoutGrudge_25 rfl ?_
        rw [bN_orI (by omega)]
        refine gj_istore_n (pc' := 27) dX3_housesWithoutGrudge_26 rfl (by decide) ?_
        refine gj_iinc (pc' := 30) dX3_housesWithoutGrudge_27 rfl rfl (by decide) ?_
        refine gj_goto (pc' := 4) dX3_housesWithoutGrudge_30 (by decide) ?_
        refine gJ_wk (ih_b (by omega)) ?_
        repeat' (first | exact True.intro | with_reducible exact rfl | refine And.intro ?_ ?_ | refine vI ?_ | refine vL ?_)
        all_goals first | omega | (rw [bN_t (by simp; omega)]) | (rw [bN_f (by simp; omega)])
  · repeat' (first | exact True.intro | with_reducible exact rfl | refine And.intro ?_ ?_ | refine vI ?_ | refine vL ?_)
    all_goals first | rfl | omega
