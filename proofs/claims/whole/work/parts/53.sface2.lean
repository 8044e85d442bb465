/-! strays: the face of the class -/
def aSt (T : Nat → Nat) (a : Int) (f : Nat → Int) : Int × Int := if 0 ≤ a ∧ a < (T 5 : Int) then (f a.toNat, 0) else (-1, 1)
def aFitAt (T : Nat → Nat) (i s : Int) : Int × Int := if (0 ≤ s ∧ s < (T 5 : Int)) ∧ 0 ≤ i ∧ i < (nR T : Int) then ((gDg (T 5) (rwF T i.toNat) s.toNat : Int), 0) else (-1, 1)
def aJudge (T : Nat → Nat) : Int := fstN (fun k => decide (T (62 + 3 * k) < knN T k)) (T 6)
theorem x_isStray {h : gH} {t : Nat} {T S : Nat → Nat} {a : Int} (hQ : XQ h t T S) (ha : inB a) : gSp 1 yX10_isStray cX10_isStray 2 (some .boolean) [.ref 0, .int (zI a)] h (gR (.int (zI (bI (decide (0 ≤ a ∧ a < (T 5 : Int)))))) h) := by
  obtain ⟨ht, hP, hF, hB, -⟩ := hQ
  obtain ⟨s0, s1, s2, s3, s4, s5, s6, s7, s8, s9, s10⟩ := shT ht
  unfold inB at ha
  refine gSp_of (by decide +kernel) (Nat.le_of_ble_eq_true rfl) ?_
  show gJ RX10 cX10_isStray 2 (some .boolean) _ 0 [some (.ref 0), some (.int (zI a))] [] _ _
  refine gj_iload_n (pc' := 1) dX10_isStray_0 rfl rfl ?_
  refine gj_if_lt (pc' := 4) (tgt := 22) dX10_isStray_1 (by decide) rfl (by omega) (fun c1 => ?_) (fun c1 => ?_)
  · refine gj_iconst (pc' := 23) dX10_isStray_22 rfl ?_
    refine gj_zret rfl (by first | rfl | exact gnZ _ | assumption) dX10_isStray_23 ?_
    first | exact gR_t (by simp; omega) | exact gR_f (by simp; omega)
  · refine gj_iload_n (pc' := 5) dX10_isStray_4 rfl rfl ?_
    refine gj_aload_n (pc' := 6) dX10_isStray_5 rfl rfl ?_
    refine gf_X10_54 (pc' := 9) dX10_isStray_6 rfl (by first | rfl | assumption) rfl ?_
    rw [hP]
    refine gf_X10_259 (pc' := 12) dX10_isStray_9 rfl (by first | rfl | assumption) rfl ?_
    refine gf_X10_387 (pc' := 15) dX10_isStray_12 rfl (by first | rfl | assumption) rfl ?_
    rw [hF.2.2]
    refine gj_icmp_ge (pc' := 18) (tgt := 22) dX10_isStray_15 (by decide) rfl (by omega) (fun c15 => ?_) (fun c15 => ?_)
    · refine gj_iconst (pc' := 23) dX10_isStray_22 rfl ?_
      refine gj_zret rfl (by first | rfl | exact gnZ _ | assumption) dX10_isStray_23 ?_
      first | exact gR_t (by simp; omega) | exact gR_f (by simp; omega)
    · refine gj_iconst (pc' := 19) dX10_isStray_18 rfl ?_
      refine gj_goto (pc' := 23) dX10_isStray_19 (by decide) ?_
      refine gj_zret rfl (by first | rfl | exact gnZ _ | assumption) dX10_isStray_23 ?_
      first | exact gR_t (by simp; omega) | exact gR_f (by simp; omega)
theorem x_fits {h : gH} {t : Nat} {T S : Nat → Nat} (hQ : XQ h t T S) (hB : T 3 ≠ 0 → StrI h t T) : gSp 12 yX10_fits cX10_fits 1 (some .int) [.ref 0] h (qX (aTown T (nR T : Nat)).1 (aTown T (nR T : Nat)).2 h) := by
  obtain ⟨ht, hP, hF, hZ, -⟩ := id hQ
  obtain ⟨t0, t1, t2, t3, t4, t5, t6, t7, t8, t9, t10⟩ := shT ht
  obtain ⟨s0, s1, s2, s3, s4, s5, s6, s7, s8, s9, s10⟩ := shS ht
  have htt : t = 6 ∨ t = 29 := ht
  refine gSp_of (by decide +kernel) (Nat.le_of_ble_eq_true rfl) ?_
  show gJ RX10 cX10_fits 1 (some .int) _ 0 [some (.ref 0)] [] _ _
  refine gj_aload_n (pc' := 1) dX10_fits_0 rfl rfl ?_
  refine gr_X10_169 (pc' := 4) dX10_fits_1 rfl (x_hasTown hQ) rfl (by first | rfl | assumption) (by decide) rfl (Nat.le_of_ble_eq_true rfl) ?_
  first | refine gj_ifB_eq (pc' := 7) (tgt := 24) dX10_fits_4 (by decide) rfl (fun c4 => ?_) (fun c4 => ?_) | refine gj_if_eq (pc' := 7) (tgt := 24) dX10_fits_4 (by decide) rfl (by omega) (fun c4 => ?_) (fun c4 => ?_)
  · first | have g4 := of_decide_eq_true c4 | have g4 := of_decide_eq_false c4 | skip
    refine gj_aload_n (pc' := 25) dX10_fits_24 rfl rfl ?_
    refine gj_iconst (pc' := 26) dX10_fits_25 rfl ?_
    refine gc_X10_72 (pc' := 29) dX10_fits_26 rfl (x_refuse) rfl (by first | rfl | assumption) (by decide) rfl (Nat.le_of_ble_eq_true rfl) (fun v9 h9 q9 => ?_)
    obtain ⟨rfl, q9a, q9b⟩ := q9
    show gJ _ _ _ _ _ _ _ (.int (zI (-1)) :: _) _ _
    refine gj_iret rfl dX10_fits_29 ?_
    first | exact qX_i (by unfold aTown; rw [if_pos (by omega)]) q9a q9b | exact qX_i (by unfold aTown; rw [if_neg (by omega)]) q9a q9b
  · first | have g4 := of_decide_eq_true c4 | have g4 := of_decide_eq_false c4 | skip
    have hI := hQ.ci (by omega)
    obtain ⟨-, -, hT, hS, hA, -, -⟩ := id hI
    have hSt := hB (by have := hT.2.2.2.1; omega)
    refine gj_aload_n (pc' := 8) dX10_fits_7 rfl rfl ?_
    refine gj_aload_n (pc' := 9) dX10_fits_8 rfl rfl ?_
    refine gf_X10_54 (pc' := 12) dX10_fits_9 rfl (by first | rfl | assumption) rfl ?_
    rw [hP]
    refine gf_X10_259 (pc' := 15) dX10_fits_12 rfl (by first | rfl | assumption) rfl ?_
    refine gf_X10_263 (pc' := 18) dX10_fits_15 rfl (by first | rfl | assumption) rfl ?_
    rw [hSt.2.2.2.1, show cnt T (NC T) = nR T from rfl]
    refine gc_X10_105 (pc' := 21) dX10_fits_18 rfl (x_grant) rfl (by first | rfl | assumption) (by decide) rfl (Nat.le_of_ble_eq_true rfl) (fun v9 h9 q9 => ?_)
    obtain ⟨rfl, q9a, q9b⟩ := q9
    show gJ _ _ _ _ _ _ _ (.int (zI _) :: _) _ _
    refine gj_goto (pc' := 29) dX10_fits_21 (by decide) ?_
    refine gj_iret rfl dX10_fits_29 ?_
    first | exact qX_i (by unfold aTown; rw [if_pos (by omega)]) q9a q9b | exact qX_i (by unfold aTown; rw [if_neg (by omega)]) q9a q9b
theorem x_fitAt {h : gH} {t : Nat} {T S : Nat → Nat} {a b : Int} (hQ : XQ h t T S) (hB : T 3 ≠ 0 → StrI h t T) (ha : inB a) (hb : inB b) : gSp 12 yX10_fitAt cX10_fitAt 3 (some .int) [.ref 0, .int (zI a), .int (zI b)] h (qX (aFitAt T a b).1 (aFitAt T a b).2 h) := by
  obtain ⟨ht, hP, hF, hZ, -⟩ := id hQ
  obtain ⟨t0, t1, t2, t3, t4, t5, t6, t7, t8, t9, t10⟩ := shT ht
  obtain ⟨s0, s1, s2, s3, s4, s5, s6, s7, s8, s9, s10⟩ := shS ht
  have htt : t = 6 ∨ t = 29 := ht
  have ha2 := ha; unfold inB at ha2
  have hb2 := hb; unfold inB at hb2
  have hr0 : 0 ≤ nR T := Nat.zero_le _
  refine gSp_of (by decide +kernel) (Nat.le_of_ble_eq_true rfl) ?_
  show gJ RX10 cX10_fitAt 3 (some .int) _ 0 [some (.ref 0), some (.int (zI a)), some (.int (zI b))] [] _ _
  refine gj_aload_n (pc' := 1) dX10_fitAt_0 rfl rfl ?_
  refine gj_iload_n (pc' := 2) dX10_fitAt_1 rfl rfl ?_
  refine gr_X10_268 (pc' := 5) dX10_fitAt_2 rfl (x_isStray hQ hb) rfl (by first | rfl | assumption) (by decide) rfl (Nat.le_of_ble_eq_true rfl) ?_
  first | refine gj_ifB_eq (pc' := 8) (tgt := 26) dX10_fitAt_5 (by decide) rfl (fun c5 => ?_) (fun c5 => ?_) | refine gj_if_eq (pc' := 8) (tgt := 26) dX10_fitAt_5 (by decide) rfl (by omega) (fun c5 => ?_) (fun c5 => ?_)
  · first | have g5 := of_decide_eq_true c5 | have g5 := of_decide_eq_false c5 | skip
    refine gj_aload_n (pc' := 27) dX10_fitAt_26 rfl rfl ?_
    refine gj_iconst (pc' := 28) dX10_fitAt_27 rfl ?_
    refine gc_X10_72 (pc' := 31) dX10_fitAt_28 rfl (x_refuse) rfl (by first | rfl | assumption) (by decide) rfl (Nat.le_of_ble_eq_true rfl) (fun v9 h9 q9 => ?_)
    obtain ⟨rfl, q9a, q9b⟩ := q9
    show gJ _ _ _ _ _ _ _ (.int (zI (-1)) :: _) _ _
    refine gj_iret rfl dX10_fitAt_31 ?_
    exact qX_i (by unfold aFitAt; rw [if_neg (by omega)]) q9a q9b
  · first | have g5 := of_decide_eq_true c5 | have g5 := of_decide_eq_false c5 | skip
    refine gj_iload_n (pc' := 9) dX10_fitAt_8 rfl rfl ?_
    refine gj_if_lt (pc' := 12) (tgt := 26) dX10_fitAt_9 (by decide) rfl (by omega) (fun c9 => ?_) (fun c9 => ?_)
    · first | have g9 := of_decide_eq_true c9 | have g9 := of_decide_eq_false c9 | skip
      refine gj_aload_n (pc' := 27) dX10_fitAt_26 rfl rfl ?_
      refine gj_iconst (pc' := 28) dX10_fitAt_27 rfl ?_
      refine gc_X10_72 (pc' := 31) dX10_fitAt_28 rfl (x_refuse) rfl (by first | rfl | assumption) (by decide) rfl (Nat.le_of_ble_eq_true rfl) (fun v9 h9 q9 => ?_)
      obtain ⟨rfl, q9a, q9b⟩ := q9
      show gJ _ _ _ _ _ _ _ (.int (zI (-1)) :: _) _ _
      refine gj_iret rfl dX10_fitAt_31 ?_
      exact qX_i (by unfold aFitAt; rw [if_neg (by omega)]) q9a q9b
    · first | have g9 := of_decide_eq_true c9 | have g9 := of_decide_eq_false c9 | skip
      have hI := hQ.ci (by omega)
      obtain ⟨-, -, hT, hS, hA, -, -⟩ := id hI
      have hSt := hB (by have := hT.2.2.2.1; omega)
      have h125 : nR T ≤ 125 := cnt_125 hT
      have h5 : T 5 ≤ 3 := hT.2.2.2.2.2.1
      refine gj_iload_n (pc' := 13) dX10_fitAt_12 rfl rfl ?_
      refine gj_aload_n (pc' := 14) dX10_fitAt_13 rfl rfl ?_
      refine gf_X10_54 (pc' := 17) dX10_fitAt_14 rfl (by first | rfl | assumption) rfl ?_
      rw [hP]
      refine gf_X10_259 (pc' := 20) dX10_fitAt_17 rfl (by first | rfl | assumption) rfl ?_
      refine gf_X10_263 (pc' := 23) dX10_fitAt_20 rfl (by first | rfl | assumption) rfl ?_
      rw [hSt.2.2.2.1, show cnt T (NC T) = nR T from rfl]
      refine gj_icmp_lt (pc' := 26) (tgt := 32) dX10_fitAt_23 (by decide) rfl (by omega) (fun c23 => ?_) (fun c23 => ?_)
      · obtain ⟨i, rfl⟩ : ∃ i : Nat, a = (i : Int) := ⟨a.toNat, by omega⟩
        obtain ⟨s, rfl⟩ : ∃ s : Nat, b = (s : Int) := ⟨b.toNat, by omega⟩
        obtain ⟨r1, r2, -⟩ := hSt.row hT (i := i) (by omega)
        refine gj_aload_n (pc' := 33) dX10_fitAt_32 rfl rfl ?_
        refine gj_aload_n (pc' := 34) dX10_fitAt_33 rfl rfl ?_
        refine gf_X10_54 (pc' := 37) dX10_fitAt_34 rfl (by first | rfl | assumption) rfl ?_
        rw [hP]
        refine gf_X10_259 (pc' := 40) dX10_fitAt_37 rfl (by first | rfl | assumption) rfl ?_
        refine gj_aload_n (pc' := 41) dX10_fitAt_40 rfl rfl ?_
        refine gf_X10_54 (pc' := 44) dX10_fitAt_41 rfl (by first | rfl | assumption) rfl ?_
        rw [hP]
        refine gf_X10_259 (pc' := 47) dX10_fitAt_44 rfl (by first | rfl | assumption) rfl ?_
        refine gf_X10_271 (pc' := 50) dX10_fitAt_47 rfl (by first | rfl | assumption) rfl ?_
        refine gj_iload_n (pc' := 51) dX10_fitAt_50 rfl rfl ?_
        refine gj_iald (pc' := 52) (j := i) (by first | rfl | assumption) (by omega) (by omega) (by decide) dX10_fitAt_51 rfl ?_
        rw [r1]
        refine gj_iload_n (pc' := 53) dX10_fitAt_52 rfl rfl ?_
        refine gr_X10_274 (pc' := 56) dX10_fitAt_53 rfl (s_guess ht hSt.1.1 h5 (by omega) (by omega)) rfl (by first | rfl | assumption) (by decide) rfl (Nat.le_of_ble_eq_true rfl) ?_
        refine gc_X10_105 (pc' := 59) dX10_fitAt_56 rfl (x_grant) rfl (by first | rfl | assumption) (by decide) rfl (Nat.le_of_ble_eq_true rfl) (fun v9 h9 q9 => ?_)
        obtain ⟨rfl, q9a, q9b⟩ := q9
        show gJ _ _ _ _ _ _ _ (.int (zI _) :: _) _ _
        refine gj_iret rfl dX10_fitAt_59 ?_
        exact qX_i (by unfold aFitAt; rw [if_pos (by omega), Int.toNat_natCast, Int.toNat_natCast]) q9a q9b
      · refine gj_aload_n (pc' := 27) dX10_fitAt_26 rfl rfl ?_
        refine gj_iconst (pc' := 28) dX10_fitAt_27 rfl ?_
        refine gc_X10_72 (pc' := 31) dX10_fitAt_28 rfl (x_refuse) rfl (by first | rfl | assumption) (by decide) rfl (Nat.le_of_ble_eq_true rfl) (fun v9 h9 q9 => ?_)
        obtain ⟨rfl, q9a, q9b⟩ := q9
        show gJ _ _ _ _ _ _ _ (.int (zI (-1)) :: _) _ _
        refine gj_iret rfl dX10_fitAt_31 ?_
        exact qX_i (by unfold aFitAt; rw [if_neg (by omega)]) q9a q9b
theorem x_could {h : gH} {t : Nat} {T S : Nat → Nat} {a : Int} (hQ : XQ h t T S) (hB : T 3 ≠ 0 → StrI h t T) (ha : inB a) : gSp 12 yX10_could cX10_could 2 (some .int) [.ref 0, .int (zI a)] h (qX (aSt T a (fun s => (gsN T s : Nat))).1 (aSt T a (fun s => (gsN T s : Nat))).2 h) := by
  obtain ⟨ht, hP, hF, hZ, -⟩ := id hQ
  obtain ⟨t0, t1, t2, t3, t4, t5, t6, t7, t8, t9, t10⟩ := shT ht
  obtain ⟨s0, s1, s2, s3, s4, s5, s6, s7, s8, s9, s10⟩ := shS ht
  have htt : t = 6 ∨ t = 29 := ht
  have ha2 := ha; unfold inB at ha2
  refine gSp_of (by decide +kernel) (Nat.le_of_ble_eq_true rfl) ?_
  show gJ RX10 cX10_could 2 (some .int) _ 0 [some (.ref 0), some (.int (zI a))] [] _ _
  refine gj_aload_n (pc' := 1) dX10_could_0 rfl rfl ?_
  refine gj_iload_n (pc' := 2) dX10_could_1 rfl rfl ?_
  refine gr_X10_268 (pc' := 5) dX10_could_2 rfl (x_isStray hQ ha) rfl (by first | rfl | assumption) (by decide) rfl (Nat.le_of_ble_eq_true rfl) ?_
  first | refine gj_ifB_eq (pc' := 8) (tgt := 26) dX10_could_5 (by decide) rfl (fun c5 => ?_) (fun c5 => ?_) | refine gj_if_eq (pc' := 8) (tgt := 26) dX10_could_5 (by decide) rfl (by omega) (fun c5 => ?_) (fun c5 => ?_)
  · first | have g5 := of_decide_eq_true c5 | have g5 := of_decide_eq_false c5 | skip
    refine gj_aload_n (pc' := 27) dX10_could_26 rfl rfl ?_
    refine gj_iconst (pc' := 28) dX10_could_27 rfl ?_
    refine gc_X10_72 (pc' := 31) dX10_could_28 rfl (x_refuse) rfl (by first | rfl | assumption) (by decide) rfl (Nat.le_of_ble_eq_true rfl) (fun v9 h9 q9 => ?_)
    obtain ⟨rfl, q9a, q9b⟩ := q9
    show gJ _ _ _ _ _ _ _ (.int (zI (-1)) :: _) _ _
    refine gj_iret rfl dX10_could_31 ?_
    first | exact qX_i (by unfold aSt; rw [if_pos (by omega), Int.toNat_natCast]) q9a q9b | exact qX_i (by unfold aSt; rw [if_neg (by omega)]) q9a q9b
  · first | have g5 := of_decide_eq_true c5 | have g5 := of_decide_eq_false c5 | skip
    obtain ⟨s, rfl⟩ : ∃ s : Nat, a = (s : Int) := ⟨a.toNat, by omega⟩
    have hI := hQ.ci (by omega)
    obtain ⟨-, -, hT, hS, hA, -, -⟩ := id hI
    have hSt := hB (by have := hT.2.2.2.1; omega)
    refine gj_aload_n (pc' := 9) dX10_could_8 rfl rfl ?_
    refine gj_aload_n (pc' := 10) dX10_could_9 rfl rfl ?_
    refine gf_X10_54 (pc' := 13) dX10_could_10 rfl (by first | rfl | assumption) rfl ?_
    rw [hP]
    refine gf_X10_259 (pc' := 16) dX10_could_13 rfl (by first | rfl | assumption) rfl ?_
    refine gj_iload_n (pc' := 17) dX10_could_16 rfl rfl ?_
    refine gr_X10_277 (pc' := 20) dX10_could_17 rfl (s_guesses ht hT hSt (by omega)) rfl (by first | rfl | assumption) (by decide) rfl (Nat.le_of_ble_eq_true rfl) ?_
    refine gc_X10_105 (pc' := 23) dX10_could_20 rfl (x_grant) rfl (by first | rfl | assumption) (by decide) rfl (Nat.le_of_ble_eq_true rfl) (fun v9 h9 q9 => ?_)
    obtain ⟨rfl, q9a, q9b⟩ := q9
    show gJ _ _ _ _ _ _ _ (.int (zI _) :: _) _ _
    refine gj_goto (pc' := 31) dX10_could_23 (by decide) ?_
    refine gj_iret rfl dX10_could_31 ?_
    first | exact qX_i (by unfold aSt; rw [if_pos (by omega), Int.toNat_natCast]) q9a q9b | exact qX_i (by unfold aSt; rw [if_neg (by omega)]) q9a q9b
theorem x_surely {h : gH} {t : Nat} {T S : Nat → Nat} {a : Int} (hQ : XQ h t T S) (hB : T 3 ≠ 0 → StrI h t T) (ha : inB a) : gSp 12 yX10_surely cX10_surely 2 (some .int) [.ref 0, .int (zI a)] h (qX (aSt T a (fun s => suF T s)).1 (aSt T a (fun s => suF T s)).2 h) := by
  obtain ⟨ht, hP, hF, hZ, -⟩ := id hQ
  obtain ⟨t0, t1, t2, t3, t4, t5, t6, t7, t8, t9, t10⟩ := shT ht
  obtain ⟨s0, s1, s2, s3, s4, s5, s6, s7, s8, s9, s10⟩ := shS ht
  have htt : t = 6 ∨ t = 29 := ht
  have ha2 := ha; unfold inB at ha2
  refine gSp_of (by decide +kernel) (Nat.le_of_ble_eq_true rfl) ?_
  show gJ RX10 cX10_surely 2 (some .int) _ 0 [some (.ref 0), some (.int (zI a))] [] _ _
  refine gj_aload_n (pc' := 1) dX10_surely_0 rfl rfl ?_
  refine gj_iload_n (pc' := 2) dX10_surely_1 rfl rfl ?_
  refine gr_X10_268 (pc' := 5) dX10_surely_2 rfl (x_isStray hQ ha) rfl (by first | rfl | assumption) (by decide) rfl (Nat.le_of_ble_eq_true rfl) ?_
  first | refine gj_ifB_eq (pc' := 8) (tgt := 26) dX10_surely_5 (by decide) rfl (fun c5 => ?_) (fun c5 => ?_) | refine gj_if_eq (pc' := 8) (tgt := 26) dX10_surely_5 (by decide) rfl (by omega) (fun c5 => ?_) (fun c5 => ?_)
  · first | have g5 := of_decide_eq_true c5 | have g5 := of_decide_eq_false c5 | skip
    refine gj_aload_n (pc' := 27) dX10_surely_26 rfl rfl ?_
    refine gj_iconst (pc' := 28) dX10_surely_27 rfl ?_
    refine gc_X10_72 (pc' := 31) dX10_surely_28 rfl (x_refuse) rfl (by first | rfl | assumption) (by decide) rfl (Nat.le_of_ble_eq_true rfl) (fun v9 h9 q9 => ?_)
    obtain ⟨rfl, q9a, q9b⟩ := q9
    show gJ _ _ _ _ _ _ _ (.int (zI (-1)) :: _) _ _
    refine gj_iret rfl dX10_surely_31 ?_
    first | exact qX_i (by unfold aSt; rw [if_pos (by omega), Int.toNat_natCast]) q9a q9b | exact qX_i (by unfold aSt; rw [if_neg (by omega)]) q9a q9b
  · first | have g5 := of_decide_eq_true c5 | have g5 := of_decide_eq_false c5 | skip
    obtain ⟨s, rfl⟩ : ∃ s : Nat, a = (s : Int) := ⟨a.toNat, by omega⟩
    have hI := hQ.ci (by omega)
    obtain ⟨-, -, hT, hS, hA, -, -⟩ := id hI
    have hSt := hB (by have := hT.2.2.2.1; omega)
    refine gj_aload_n (pc' := 9) dX10_surely_8 rfl rfl ?_
    refine gj_aload_n (pc' := 10) dX10_surely_9 rfl rfl ?_
    refine gf_X10_54 (pc' := 13) dX10_surely_10 rfl (by first | rfl | assumption) rfl ?_
    rw [hP]
    refine gf_X10_259 (pc' := 16) dX10_surely_13 rfl (by first | rfl | assumption) rfl ?_
    refine gj_iload_n (pc' := 17) dX10_surely_16 rfl rfl ?_
    refine gr_X10_280 (pc' := 20) dX10_surely_17 rfl (s_onlyGuess ht hT hSt (by omega)) rfl (by first | rfl | assumption) (by decide) rfl (Nat.le_of_ble_eq_true rfl) ?_
    refine gc_X10_105 (pc' := 23) dX10_surely_20 rfl (x_grant) rfl (by first | rfl | assumption) (by decide) rfl (Nat.le_of_ble_eq_true rfl) (fun v9 h9 q9 => ?_)
    obtain ⟨rfl, q9a, q9b⟩ := q9
    show gJ _ _ _ _ _ _ _ (.int (zI _) :: _) _ _
    refine gj_goto (pc' := 31) dX10_surely_23 (by decide) ?_
    refine gj_iret rfl dX10_surely_31 ?_
    first | exact qX_i (by unfold aSt; rw [if_pos (by omega), Int.toNat_natCast]) q9a q9b | exact qX_i (by unfold aSt; rw [if_neg (by omega)]) q9a q9b
theorem x_look {h : gH} {t : Nat} {T S : Nat → Nat} (hQ : XQ h t T S) (hB : T 3 ≠ 0 → StrI h t T) : gSp 12 yX10_look cX10_look 1 (some .int) [.ref 0] h (qX (aTown T (lkF T).1).1 (aTown T (lkF T).1).2 h) := by
  obtain ⟨ht, hP, hF, hZ, -⟩ := id hQ
  obtain ⟨t0, t1, t2, t3, t4, t5, t6, t7, t8, t9, t10⟩ := shT ht
  obtain ⟨s0, s1, s2, s3, s4, s5, s6, s7, s8, s9, s10⟩ := shS ht
  have htt : t = 6 ∨ t = 29 := ht
  refine gSp_of (by decide +kernel) (Nat.le_of_ble_eq_true rfl) ?_
  show gJ RX10 cX10_look 1 (some .int) _ 0 [some (.ref 0)] [] _ _
  refine gj_aload_n (pc' := 1) dX10_look_0 rfl rfl ?_
  refine gr_X10_169 (pc' := 4) dX10_look_1 rfl (x_hasTown hQ) rfl (by first | rfl | assumption) (by decide) rfl (Nat.le_of_ble_eq_true rfl) ?_
  first | refine gj_ifB_eq (pc' := 7) (tgt := 28) dX10_look_4 (by decide) rfl (fun c4 => ?_) (fun c4 => ?_) | refine gj_if_eq (pc' := 7) (tgt := 28) dX10_look_4 (by decide) rfl (by omega) (fun c4 => ?_) (fun c4 => ?_)
  · first | have g4 := of_decide_eq_true c4 | have g4 := of_decide_eq_false c4 | skip
    refine gj_aload_n (pc' := 29) dX10_look_28 rfl rfl ?_
    refine gj_iconst (pc' := 30) dX10_look_29 rfl ?_
    refine gc_X10_72 (pc' := 33) dX10_look_30 rfl (x_refuse) rfl (by first | rfl | assumption) (by decide) rfl (Nat.le_of_ble_eq_true rfl) (fun v9 h9 q9 => ?_)
    obtain ⟨rfl, q9a, q9b⟩ := q9
    show gJ _ _ _ _ _ _ _ (.int (zI (-1)) :: _) _ _
    refine gj_iret rfl dX10_look_33 ?_
    first | exact qX_i (by unfold aTown; rw [if_pos (by omega)]) (XS.tr ⟨d0, fun o _ _ _ _ _ _ o1 o2 => d1 o (by omega), fun k _ => congrFun (d1 0 (by omega)) k⟩ q9a) q9b | exact qX_i (by unfold aTown; rw [if_neg (by omega)]) q9a q9b
  · first | have g4 := of_decide_eq_true c4 | have g4 := of_decide_eq_false c4 | skip
    have hI := hQ.ci (by omega)
    obtain ⟨-, -, hT, hS, hA, -, -⟩ := id hI
    have hSt := hB (by have := hT.2.2.2.1; omega)
    refine gj_aload_n (pc' := 8) dX10_look_7 rfl rfl ?_
    refine gj_aload_n (pc' := 9) dX10_look_8 rfl rfl ?_
    refine gf_X10_54 (pc' := 12) dX10_look_9 rfl (by first | rfl | assumption) rfl ?_
    rw [hP]
    refine gf_X10_259 (pc' := 15) dX10_look_12 rfl (by first | rfl | assumption) rfl ?_
    refine gj_aload_n (pc' := 16) dX10_look_15 rfl rfl ?_
    refine gf_X10_54 (pc' := 19) dX10_look_16 rfl (by first | rfl | assumption) rfl ?_
    rw [hP]
    refine gc_X10_283 (pc' := 22) dX10_look_19 rfl (s_bestSpot ht hT (hA.1 3 (by omega)) hSt) rfl (by first | rfl | assumption) (by decide) rfl (Nat.le_of_ble_eq_true rfl) (fun v9 h9 q9 => ?_)
    obtain ⟨rfl, d0, d1⟩ := q9
    obtain ⟨hd, rfl⟩ : ∃ x, x = h9 := ⟨h9, rfl⟩
    show gJ _ _ _ _ _ _ _ (.int (zI _) :: _) _ _
    refine gc_X10_105 (pc' := 25) dX10_look_22 rfl (x_grant) rfl (by first | rfl | assumption) (by decide) rfl (Nat.le_of_ble_eq_true rfl) (fun v9 h9 q9 => ?_)
    obtain ⟨rfl, q9a, q9b⟩ := q9
    show gJ _ _ _ _ _ _ _ (.int (zI _) :: _) _ _
    refine gj_goto (pc' := 33) dX10_look_25 (by decide) ?_
    refine gj_iret rfl dX10_look_33 ?_
    first | exact qX_i (by unfold aTown; rw [if_pos (by omega)]) (XS.tr ⟨d0, fun o _ _ _ _ _ _ o1 o2 => d1 o (by omega), fun k _ => congrFun (d1 0 (by omega)) k⟩ q9a) q9b | exact qX_i (by unfold aTown; rw [if_neg (by omega)]) q9a q9b
theorem x_lookLeaves {h : gH} {t : Nat} {T S : Nat → Nat} (hQ : XQ h t T S) (hB : T 3 ≠ 0 → StrI h t T) : gSp 12 yX10_lookLeaves cX10_lookLeaves 1 (some .int) [.ref 0] h (qX (aTown T (lkF T).2).1 (aTown T (lkF T).2).2 h) := by
  obtain ⟨ht, hP, hF, hZ, -⟩ := id hQ
  obtain ⟨t0, t1, t2, t3, t4, t5, t6, t7, t8, t9, t10⟩ := shT ht
  obtain ⟨s0, s1, s2, s3, s4, s5, s6, s7, s8, s9, s10⟩ := shS ht
  have htt : t = 6 ∨ t = 29 := ht
  refine gSp_of (by decide +kernel) (Nat.le_of_ble_eq_true rfl) ?_
  show gJ RX10 cX10_lookLeaves 1 (some .int) _ 0 [some (.ref 0)] [] _ _
  refine gj_aload_n (pc' := 1) dX10_lookLeaves_0 rfl rfl ?_
  refine gr_X10_169 (pc' := 4) dX10_lookLeaves_1 rfl (x_hasTown hQ) rfl (by first | rfl | assumption) (by decide) rfl (Nat.le_of_ble_eq_true rfl) ?_
  first | refine gj_ifB_eq (pc' := 7) (tgt := 28) dX10_lookLeaves_4 (by decide) rfl (fun c4 => ?_) (fun c4 => ?_) | refine gj_if_eq (pc' := 7) (tgt := 28) dX10_lookLeaves_4 (by decide) rfl (by omega) (fun c4 => ?_) (fun c4 => ?_)
  · first | have g4 := of_decide_eq_true c4 | have g4 := of_decide_eq_false c4 | skip
    refine gj_aload_n (pc' := 29) dX10_lookLeaves_28 rfl rfl ?_
    refine gj_iconst (pc' := 30) dX10_lookLeaves_29 rfl ?_
    refine gc_X10_72 (pc' := 33) dX10_lookLeaves_30 rfl (x_refuse) rfl (by first | rfl | assumption) (by decide) rfl (Nat.le_of_ble_eq_true rfl) (fun v9 h9 q9 => ?_)
    obtain ⟨rfl, q9a, q9b⟩ := q9
    show gJ _ _ _ _ _ _ _ (.int (zI (-1)) :: _) _ _
    refine gj_iret rfl dX10_lookLeaves_33 ?_
    first | exact qX_i (by unfold aTown; rw [if_pos (by omega)]) (XS.tr ⟨d0, fun o _ _ _ _ _ _ o1 o2 => d1 o (by omega), fun k _ => congrFun (d1 0 (by omega)) k⟩ q9a) q9b | exact qX_i (by unfold aTown; rw [if_neg (by omega)]) q9a q9b
  · first | have g4 := of_decide_eq_true c4 | have g4 := of_decide_eq_false c4 | skip
    have hI := hQ.ci (by omega)
    obtain ⟨-, -, hT, hS, hA, -, -⟩ := id hI
    have hSt := hB (by have := hT.2.2.2.1; omega)
    refine gj_aload_n (pc' := 8) dX10_lookLeaves_7 rfl rfl ?_
    refine gj_aload_n (pc' := 9) dX10_lookLeaves_8 rfl rfl ?_
    refine gf_X10_54 (pc' := 12) dX10_lookLeaves_9 rfl (by first | rfl | assumption) rfl ?_
    rw [hP]
    refine gf_X10_259 (pc' := 15) dX10_lookLeaves_12 rfl (by first | rfl | assumption) rfl ?_
    refine gj_aload_n (pc' := 16) dX10_lookLeaves_15 rfl rfl ?_
    refine gf_X10_54 (pc' := 19) dX10_lookLeaves_16 rfl (by first | rfl | assumption) rfl ?_
    rw [hP]
    refine gc_X10_286 (pc' := 22) dX10_lookLeaves_19 rfl (s_bestLeaves ht hT (hA.1 3 (by omega)) hSt) rfl (by first | rfl | assumption) (by decide) rfl (Nat.le_of_ble_eq_true rfl) (fun v9 h9 q9 => ?_)
    obtain ⟨rfl, d0, d1⟩ := q9
    obtain ⟨hd, rfl⟩ : ∃ x, x = h9 := ⟨h9, rfl⟩
    show gJ _ _ _ _ _ _ _ (.int (zI _) :: _) _ _
    refine gc_X10_105 (pc' := 25) dX10_lookLeaves_22 rfl (x_grant) rfl (by first | rfl | assumption) (by decide) rfl (Nat.le_of_ble_eq_true rfl) (fun v9 h9 q9 => ?_)
    obtain ⟨rfl, q9a, q9b⟩ := q9
    show gJ _ _ _ _ _ _ _ (.int (zI _) :: _) _ _
    refine gj_goto (pc' := 33) dX10_lookLeaves_25 (by decide) ?_
    refine gj_iret rfl dX10_lookLeaves_33 ?_
    first | exact qX_i (by unfold aTown; rw [if_pos (by omega)]) (XS.tr ⟨d0, fun o _ _ _ _ _ _ o1 o2 => d1 o (by omega), fun k _ => congrFun (d1 0 (by omega)) k⟩ q9a) q9b | exact qX_i (by unfold aTown; rw [if_neg (by omega)]) q9a q9b
theorem x_judge {h : gH} {t : Nat} {T S : Nat → Nat} (hQ : XQ h t T S) (hB : T 3 ≠ 0 → StrI h t T) : gSp 12 yX10_judge cX10_judge 1 (some .int) [.ref 0] h (qX (aTown T (aJudge T)).1 (aTown T (aJudge T)).2 h) := by
  obtain ⟨ht, hP, hF, hZ, -⟩ := id hQ
  obtain ⟨t0, t1, t2, t3, t4, t5, t6, t7, t8, t9, t10⟩ := shT ht
  obtain ⟨s0, s1, s2, s3, s4, s5, s6, s7, s8, s9, s10⟩ := shS ht
  have htt : t = 6 ∨ t = 29 := ht
  refine gSp_of (by decide +kernel) (Nat.le_of_ble_eq_true rfl) ?_
  show gJ RX10 cX10_judge 1 (some .int) _ 0 [some (.ref 0)] [] _ _
  refine gj_aload_n (pc' := 1) dX10_judge_0 rfl rfl ?_
  refine gr_X10_169 (pc' := 4) dX10_judge_1 rfl (x_hasTown hQ) rfl (by first | rfl | assumption) (by decide) rfl (Nat.le_of_ble_eq_true rfl) ?_
  first | refine gj_ifB_eq (pc' := 7) (tgt := 24) dX10_judge_4 (by decide) rfl (fun c4 => ?_) (fun c4 => ?_) | refine gj_if_eq (pc' := 7) (tgt := 24) dX10_judge_4 (by decide) rfl (by omega) (fun c4 => ?_) (fun c4 => ?_)
  · first | have g4 := of_decide_eq_true c4 | have g4 := of_decide_eq_false c4 | skip
    refine gj_aload_n (pc' := 25) dX10_judge_24 rfl rfl ?_
    refine gj_iconst (pc' := 26) dX10_judge_25 rfl ?_
    refine gc_X10_72 (pc' := 29) dX10_judge_26 rfl (x_refuse) rfl (by first | rfl | assumption) (by decide) rfl (Nat.le_of_ble_eq_true rfl) (fun v9 h9 q9 => ?_)
    obtain ⟨rfl, q9a, q9b⟩ := q9
    show gJ _ _ _ _ _ _ _ (.int (zI (-1)) :: _) _ _
    refine gj_iret rfl dX10_judge_29 ?_
    first | exact qX_i (by unfold aTown; rw [if_pos (by omega)]; rfl) q9a q9b | exact qX_i (by unfold aTown; rw [if_neg (by omega)]) q9a q9b
  · first | have g4 := of_decide_eq_true c4 | have g4 := of_decide_eq_false c4 | skip
    have hI := hQ.ci (by omega)
    obtain ⟨-, -, hT, hS, hA, -, -⟩ := id hI
    have hSt := hB (by have := hT.2.2.2.1; omega)
    refine gj_aload_n (pc' := 8) dX10_judge_7 rfl rfl ?_
    refine gj_aload_n (pc' := 9) dX10_judge_8 rfl rfl ?_
    refine gf_X10_54 (pc' := 12) dX10_judge_9 rfl (by first | rfl | assumption) rfl ?_
    rw [hP]
    refine gf_X10_259 (pc' := 15) dX10_judge_12 rfl (by first | rfl | assumption) rfl ?_
    refine gr_X10_289 (pc' := 18) dX10_judge_15 rfl (s_tooFew ht hT hSt) rfl (by first | rfl | assumption) (by decide) rfl (Nat.le_of_ble_eq_true rfl) ?_
    refine gc_X10_105 (pc' := 21) dX10_judge_18 rfl (x_grant) rfl (by first | rfl | assumption) (by decide) rfl (Nat.le_of_ble_eq_true rfl) (fun v9 h9 q9 => ?_)
    obtain ⟨rfl, q9a, q9b⟩ := q9
    show gJ _ _ _ _ _ _ _ (.int (zI _) :: _) _ _
    refine gj_goto (pc' := 29) dX10_judge_21 (by decide) ?_
    refine gj_iret rfl dX10_judge_29 ?_
    first | exact qX_i (by unfold aTown; rw [if_pos (by omega)]; rfl) q9a q9b | exact qX_i (by unfold aTown; rw [if_neg (by omega)]) q9a q9b
