/-! a day, a payment, a meeting: the class -/
theorem CI.to {h h' : gH} {t : Nat} {T S S' : Nat → Nat} (hI : CI h t T S) (e2 : h'.2 = h.2) (e : ∀ o, o < 52 → h'.1 o = h.1 o) (hS' : SV T S') (hN : PresAt h' 52 T S') : CI h' t T S' := by
  obtain ⟨ht, hP, hT, hS, hA, hB, hN0⟩ := hI
  have hb : t ≤ 29 := by rcases ht with rfl | rfl <;> omega
  refine ⟨ht, by rw [e2]; exact hP, hT, hS', ⟨fun k hk => ?_, fun k hk => ⟨?_, ?_⟩, fun b hb2 => ?_⟩, fun b hb2 => ⟨?_, ?_⟩, hN⟩
  · rw [e t (by omega)]; exact hA.1 k hk
  · rw [e (t + 1) (by omega)]; exact (hA.2.1 k hk).1
  · rw [e (t + 2) (by omega)]; exact (hA.2.1 k hk).2
  · rw [e (t + 3) (by omega), e (t + 4) (by omega), e (t + 5) (by omega), e (t + 6) (by omega), e (t + 7) (by omega)]; exact hA.2.2 b hb2
  · rw [e (t + 8) (by omega)]; exact (hB b hb2).1
  · rw [e (t + 9) (by omega)]; exact (hB b hb2).2
def sDp (T S : Nat → Nat) (b : Nat) : Nat → Nat := fun j => if j = 20 then S 20 + 1 else if 7 ≤ j ∧ j < 13 then S j + sN (fun i => (sSit T S (j - 7) (S 20 + 1) i).toNat) b else S j
theorem sDp_d {T S : Nat → Nat} {b : Nat} : sDp T S b 20 = S 20 + 1 := rfl
theorem sDp_w {T S : Nat → Nat} {b k : Nat} (hk : k < 6) : sDp T S b (7 + k) = S (7 + k) + sN (fun i => (sSit T S k (S 20 + 1) i).toNat) b := by
  unfold sDp
  rw [if_neg (by omega), if_pos (by omega), show 7 + k - 7 = k by omega]
theorem sDp_o {T S : Nat → Nat} {b j : Nat} (h1 : j ≠ 20) (h2 : j < 7 ∨ 13 ≤ j) : sDp T S b j = S j := by
  unfold sDp
  rw [if_neg h1, if_neg (by omega)]
theorem sWh_dp {T S : Nat → Nat} {b c d : Nat} : sWh T (sDp T S b) c d = sWh T S c d := by
  unfold sWh sGone
  rw [sDp_o (by decide) (by decide)]
theorem SV_dp {T S : Nat → Nat} {b : Nat} (hT : TV T) (hS : SV T S) (hd : S 20 < 999) (hb : b ≤ T 4) : SV T (sDp T S b) := by
  have h3 : T 3 ≤ 6 := hT.2.2.2.1.2
  have h4 : T 4 ≤ 7 := hT.2.2.2.2.1
  refine ⟨fun c hc => ?_, ?_, ?_, fun k hk => ?_, fun k hk => ?_⟩
  · rw [sDp_o (by omega) (by omega)]; exact hS.1 c hc
  · rw [sDp_o (by decide) (by decide)]; exact hS.2.1
  · rw [sDp_d]; omega
  · rw [sDp_w (by omega), sDp_d]
    have := hS.2.2.2.1 k hk
    have := sN_le (f := fun i => (sSit T S k (S 20 + 1) i).toNat) (c := 1) (n := b) (fun i _ => Bool.toNat_le _)
    omega
  · rw [sDp_o (by omega) (by omega)]; exact hS.2.2.2.2 k hk
theorem PA_dp {h h' : gH} {T S : Nat → Nat} {b : Nat} (h3 : T 3 ≤ 6) (h4 : T 4 ≤ 7) (a : PresAt h 52 T (sDp T S b)) (e : ∀ o, o = 52 ∨ o = 53 ∨ o = 55 → h'.1 o = h.1 o) (ew : ∀ k, k < T 3 → h'.1 54 k = h.1 54 k + ((sSit T S k (S 20 + 1) b).toNat : Int)) : PresAt h' 52 T (sDp T S (b + 1)) := by
  obtain ⟨a0, a1, a2, a3, a4⟩ := a
  refine ⟨?_, ?_, ?_, fun k hk => ⟨?_, ?_⟩, fun c hc => ?_⟩
  · rw [e 52 (by omega), a0]; rfl
  · rw [e 52 (by omega), a1, sDp_o (by decide) (by decide), sDp_o (by decide) (by decide)]
  · rw [e 52 (by omega), a2, sDp_o (by decide) (by decide), sDp_o (by decide) (by decide)]
  · show h'.1 53 k = _
    rw [e 53 (by omega), show h.1 53 k = _ from (a3 k hk).1, sDp_o (by omega) (by omega), sDp_o (by omega) (by omega)]
  · show h'.1 54 k = _
    have es : sN (fun i => (sSit T S k (S 20 + 1) i).toNat) (b + 1) = sN (fun i => (sSit T S k (S 20 + 1) i).toNat) b + (sSit T S k (S 20 + 1) b).toNat := rfl
    rw [ew k hk, show h.1 54 k = _ from (a3 k hk).2, sDp_w (by omega), sDp_w (by omega), es]
    omega
  · show h'.1 55 c = _
    rw [e 55 (by omega), show h.1 55 c = _ from a4 c hc, sDp_o (by omega) (by omega), sDp_o (by omega) (by omega)]
theorem PA_dp0 {h : gH} {T S : Nat → Nat} {x : Int} (h3 : T 3 ≤ 6) (h4 : T 4 ≤ 7) (a : PresIs h T S) (hx : x = ((S 20 + 1 : Nat) : Int)) : PresAt (gui h 52 0 x) 52 T (sDp T S 0) := by
  obtain ⟨a0, a1, a2, a3, a4⟩ := a
  refine ⟨?_, ?_, ?_, fun k hk => ⟨?_, ?_⟩, fun c hc => ?_⟩
  · rw [gui_s, up1_s]; exact hx
  · rw [gui_s, up1_n (by decide), a1, sDp_o (by decide) (by decide)]
  · rw [gui_s, up1_n (by decide), a2, sDp_o (by decide) (by decide)]
  · show (gui h 52 0 x).1 53 k = _
    rw [gui_n (by decide), (a3 k hk).1, sDp_o (by omega) (by omega)]
  · show (gui h 52 0 x).1 54 k = _
    rw [gui_n (by decide), (a3 k hk).2, sDp_w (by omega)]
    rfl
  · show (gui h 52 0 x).1 55 c = _
    rw [gui_n (by decide), a4 c hc, sDp_o (by omega) (by omega)]
def sSits (T S : Nat → Nat) (d : Nat) : Nat → Nat := sN (fun i => (sWh T S i d == 2).toNat)
theorem s_passDay {h : gH} {t : Nat} {T S : Nat → Nat} (hI : CI h t T S) (hd : S 20 < 999) : gSp 6 yX3_passDay cX3_passDay 4 (some .int) [.ref 52, .ref t] h (fun v h' => v = some (.int (zI (sSits T S (S 20 + 1) (T 4) : Nat))) ∧ h'.2 = h.2 ∧ (∀ o, o ≠ 52 → o ≠ 54 → h'.1 o = h.1 o) ∧ CI h' t T (sDp T S (T 4))) := by
  obtain ⟨ht, hP, hT, hS, hA, hB, hN⟩ := id hI
  obtain ⟨s0, s1, s2, s3, s4, s5, s6, s7, s8, s9, s10⟩ := shT ht
  have h3 : T 3 ≤ 6 := hT.2.2.2.1.2
  have h4 : T 4 ≤ 7 := hT.2.2.2.2.1
  refine gSp_of (by decide +kernel) (Nat.le_of_ble_eq_true rfl) ?_
  show gJ RX3 cX3_passDay 4 (some .int) _ 0 [some (.ref 52), some (.ref t), none, none] [] _ _
  refine gj_aload_n (pc' := 1) dX3_passDay_0 rfl rfl ?_
  refine gj_dup (pc' := 2) dX3_passDay_1 rfl rfl ?_
  refine gf_X3_23 (pc' := 5) dX3_passDay_2 rfl (by first | rfl | assumption) rfl ?_
  rw [hN.1]
  refine gj_iconst (pc' := 6) dX3_passDay_5 rfl ?_
  refine gj_iadd (pc' := 7) dX3_passDay_6 rfl ?_
  refine gp_X3_23 (pc' := 10) dX3_passDay_7 rfl (by first | rfl | assumption) rfl ?_
  refine gj_iconst (pc' := 11) dX3_passDay_10 rfl ?_
  refine gj_istore_n (pc' := 12) dX3_passDay_11 rfl (by decide) ?_
  refine gj_iconst (pc' := 13) dX3_passDay_12 rfl ?_
  refine gj_istore_n (pc' := 14) dX3_passDay_13 rfl (by decide) ?_
  refine gJ_wk (gJ_fH1 (L := fun b x => [some (.ref 52), some (.ref t), some (.int (zI x)), some (.int (zI (b : Int)))]) (I := fun b x hp => x = ((sSits T S (S 20 + 1) b : Nat) : Int) ∧ CI hp t T (sDp T S b) ∧ hp.2 = h.2 ∧ ∀ o, o ≠ 52 → o ≠ 54 → hp.1 o = h.1 o) (T 4) (fun b x hp hb_b iv_b ih_b => ?step_1) (0) (Nat.zero_le _) ?x0_1 _ ?iv0_1) ?ll0_1
  case ll0_1 =>
    repeat' (first | exact True.intro | with_reducible exact rfl | refine And.intro ?_ ?_ | refine vI ?_ | refine vL ?_)
    all_goals first | rfl | omega
  case iv0_1 =>
    exact ⟨rfl, hI.to rfl (fun o ho => gui_n (by omega)) (SV_dp hT hS hd (Nat.zero_le _)) (PA_dp0 h3 h4 hN rfl), rfl, fun o h1 h2 => gui_n h1⟩
  obtain ⟨rfl, hI2, e2, e1⟩ := iv_b
  obtain ⟨-, -, -, hS2, hA2, hB2, hN2⟩ := id hI2
  have es : sSits T S (S 20 + 1) (b + 1) = sSits T S (S 20 + 1) b + (sWh T S b (S 20 + 1) == 2).toNat := rfl
  refine gj_iload_n (pc' := 15) dX3_passDay_14 rfl rfl ?_
  refine gj_aload_n (pc' := 16) dX3_passDay_15 rfl rfl ?_
  refine gf_X3_40 (pc' := 19) dX3_passDay_16 rfl (by first | rfl | assumption) rfl ?_
  rw [hA2.1 4 (by omega)]
  refine gj_icmp_ge (pc' := 22) (tgt := 59) dX3_passDay_19 (by decide) rfl (by omega) (fun c19 => ?_) (fun c19 => ?_)
  · refine gj_iload_n (pc' := 60) dX3_passDay_59 rfl rfl ?_
    refine gj_iret rfl dX3_passDay_60 ?_
    have hbe : b = T 4 := by omega
    subst hbe
    exact ⟨rfl, e2, e1, hI2⟩
  · refine gj_aload_n (pc' := 23) dX3_passDay_22 rfl rfl ?_
    refine gj_aload_n (pc' := 24) dX3_passDay_23 rfl rfl ?_
    refine gj_iload_n (pc' := 25) dX3_passDay_24 rfl rfl ?_
    refine gj_aload_n (pc' := 26) dX3_passDay_25 rfl rfl ?_
    refine gf_X3_23 (pc' := 29) dX3_passDay_26 rfl (by first | rfl | assumption) rfl ?_
    rw [hN2.1, sDp_d]
    refine gr_X3_64 (pc' := 32) dX3_passDay_29 rfl (s_sitsOn hI2 (by omega) (by omega)) rfl (by first | rfl | assumption) (by decide) rfl (Nat.le_of_ble_eq_true rfl) ?_
    rw [sWh_dp]
    first | refine gj_ifB_eq (pc' := 35) (tgt := 53) dX3_passDay_32 (by decide) rfl (fun c32 => ?_) (fun c32 => ?_) | refine gj_if_eq (pc' := 35) (tgt := 53) dX3_passDay_32 (by decide) rfl (by omega) (fun c32 => ?_) (fun c32 => ?_)
    · refine gj_iinc (pc' := 56) dX3_passDay_53 rfl rfl (by decide) ?_
      refine gj_goto (pc' := 14) dX3_passDay_56 (by decide) ?_
      refine gJ_wk (ih_b ?x_2 _ (by omega) ?iv_2) ?ll_2
      case ll_2 =>
        repeat' (first | exact True.intro | with_reducible exact rfl | refine And.intro ?_ ?_ | refine vI ?_ | refine vL ?_)
        all_goals omega
      first
      | (refine ⟨?_, hI2.to rfl (fun o ho => gui_n (by omega)) (SV_dp hT hS hd (by omega)) (PA_dp h3 h4 hN2 (fun o ho => gui_n (by omega)) (fun k hk => ?_)), e2, fun o h1 h2 => (gui_n h2).trans (e1 o h1 h2)⟩
         · rw [es, c32]; simp
         · have hs : sSit T S k (S 20 + 1) b = (tSill T b == k) := by unfold sSit; rw [c32]; simp
           rw [hs, gui_s]
           by_cases q : k = tSill T b
           · subst q
             rw [up1_s, (hN2.2.2.2.1 _ hk).2]; simp
           · rw [up1_n q, beq_eq_false_iff_ne.mpr (fun z => q z.symm)]; simp)
      | (refine ⟨?_, hI2.to rfl (fun o ho => rfl) (SV_dp hT hS hd (by omega)) (PA_dp h3 h4 hN2 (fun o ho => rfl) (fun k hk => ?_)), e2, e1⟩
         · rw [es, c32]; simp
         · have hs : sSit T S k (S 20 + 1) b = false := by unfold sSit; rw [c32]; simp
           rw [hs]; simp)
    · refine gj_aload_n (pc' := 36) dX3_passDay_35 rfl rfl ?_
      refine gf_X3_17 (pc' := 39) dX3_passDay_36 rfl (by first | rfl | assumption) rfl ?_
      refine gj_aload_n (pc' := 40) dX3_passDay_39 rfl rfl ?_
      refine gf_X3_61 (pc' := 43) dX3_passDay_40 rfl (by first | rfl | assumption) rfl ?_
      refine gj_iload_n (pc' := 44) dX3_passDay_43 rfl rfl ?_
      refine gj_iald (pc' := 45) (by first | rfl | assumption) rfl (by omega) (by decide) dX3_passDay_44 rfl ?_
      rw [(hB2 b (by omega)).1]
      refine gj_dup2 (pc' := 46) dX3_passDay_45 rfl rfl rfl ?_
      refine gj_iald (pc' := 47) (by first | rfl | assumption) rfl (by have := tSill_lt hT (b := b) (by omega); omega) (by decide) dX3_passDay_46 rfl ?_
      rw [(hN2.2.2.2.1 (tSill T b) (tSill_lt hT (by omega))).2]
      refine gj_iconst (pc' := 48) dX3_passDay_47 rfl ?_
      refine gj_iadd (pc' := 49) dX3_passDay_48 rfl ?_
      refine gj_iast (pc' := 50) (by first | rfl | assumption) rfl (by have := tSill_lt hT (b := b) (by omega); omega) (by decide) dX3_passDay_49 rfl ?_
      refine gj_iinc (pc' := 53) dX3_passDay_50 rfl rfl (by decide) ?_
      refine gj_iinc (pc' := 56) dX3_passDay_53 rfl rfl (by decide) ?_
      refine gj_goto (pc' := 14) dX3_passDay_56 (by decide) ?_
      refine gJ_wk (ih_b ?x_3 _ (by omega) ?iv_3) ?ll_3
      case ll_3 =>
        repeat' (first | exact True.intro | with_reducible exact rfl | refine And.intro ?_ ?_ | refine vI ?_ | refine vL ?_)
        all_goals omega
      first
      | (refine ⟨?_, hI2.to rfl (fun o ho => gui_n (by omega)) (SV_dp hT hS hd (by omega)) (PA_dp h3 h4 hN2 (fun o ho => gui_n (by omega)) (fun k hk => ?_)), e2, fun o h1 h2 => (gui_n h2).trans (e1 o h1 h2)⟩
         · rw [es, c32]; simp
         · have hs : sSit T S k (S 20 + 1) b = (tSill T b == k) := by unfold sSit; rw [c32]; simp
           rw [hs, gui_s]
           by_cases q : k = tSill T b
           · subst q
             rw [up1_s, (hN2.2.2.2.1 _ hk).2]; simp
           · rw [up1_n q, beq_eq_false_iff_ne.mpr (fun z => q z.symm)]; simp)
      | (refine ⟨?_, hI2.to rfl (fun o ho => rfl) (SV_dp hT hS hd (by omega)) (PA_dp h3 h4 hN2 (fun o ho => rfl) (fun k hk => ?_)), e2, e1⟩
         · rw [es, c32]; simp
         · have hs : sSit T S k (S 20 + 1) b = false := by unfold sSit; rw [c32]; simp
           rw [hs]; simp)
