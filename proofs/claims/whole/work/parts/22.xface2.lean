/-! the face of GrudgeLoft: two houses, hawks -/
def aLeft (T S : Nat → Nat) (a b : Int) (l : Bool) : Int × Int := aHoN T a b (fun n m => (hOf (T 1) (sMany T S n (S 20)) m l : Int)) 7
def aStays (T : Nat → Nat) (b : Int) (l : Bool) : Int × Int := aToN T b (fun m => (hMe (T 1) m l : Int)) 8
def aRests (T : Nat → Nat) (w : Int) : Int × Int := aToN T w (fun n => (sN (fun k => (rsP n k).toNat) 4 : Nat)) 9
def aRest (T : Nat → Nat) (w : Int) : Int × Int := aToN T w (fun n => rsV (fstN (rsP n) 4)) 9
theorem x_sends {h : gH} {t : Nat} {T S : Nat → Nat} {b : Int} {p q o : Bool} (hQ : XQ h t T S) (hb : inB b) : gSp 12 yX10_sends cX10_sends 5 (some .int) [.ref 0, .int (zI b), .int (zI (bI p)), .int (zI (bI q)), .int (zI (bI o))] h (qX (aSends T b p q o).1 (aSends T b p q o).2 h) := by
  obtain ⟨ht, hP, hF, hZ, -⟩ := id hQ
  obtain ⟨s0, s1, s2, s3, s4, s5, s6, s7, s8, s9, s10⟩ := shT ht
  have hb2 := hb; unfold inB at hb2
  refine gSp_of (by decide +kernel) (Nat.le_of_ble_eq_true rfl) ?_
  show gJ RX10 cX10_sends 5 (some .int) _ 0 [some (.ref 0), some (.int (zI b)), some (.int (zI (bI p))), some (.int (zI (bI q))), some (.int (zI (bI o)))] [] _ _
  refine gj_aload_n (pc' := 1) dX10_sends_0 rfl rfl ?_
  refine gr_X10_169 (pc' := 4) dX10_sends_1 rfl (x_hasTown hQ) rfl (by first | rfl | assumption) (by decide) rfl (Nat.le_of_ble_eq_true rfl) ?_
  first | refine gj_ifB_ne (pc' := 7) (tgt := 13) dX10_sends_4 (by decide) rfl (fun c4 => ?_) (fun c4 => ?_) | refine gj_if_ne (pc' := 7) (tgt := 13) dX10_sends_4 (by decide) rfl (by omega) (fun c4 => ?_) (fun c4 => ?_)
  · first | have g4 := of_decide_eq_true c4 | have g4 := of_decide_eq_false c4 | skip
    refine gj_iload_n (pc' := 14) dX10_sends_13 rfl rfl ?_
    refine gj_iconst (pc' := 15) dX10_sends_14 rfl ?_
    refine gj_bipush (pc' := 17) dX10_sends_15 rfl (by decide) ?_
    refine gr_X10_183 (pc' := 20) dX10_sends_17 rfl (x_isWithin hb (by unfold inB; omega) (by unfold inB; omega)) rfl (by decide) rfl (Nat.le_of_ble_eq_true rfl) ?_
    first | refine gj_ifB_ne (pc' := 23) (tgt := 29) dX10_sends_20 (by decide) rfl (fun c20 => ?_) (fun c20 => ?_) | refine gj_if_ne (pc' := 23) (tgt := 29) dX10_sends_20 (by decide) rfl (by omega) (fun c20 => ?_) (fun c20 => ?_)
    · first | have g20 := of_decide_eq_true c20 | have g20 := of_decide_eq_false c20 | skip
      have hI := hQ.ci (by omega)
      obtain ⟨-, -, hT, hS, hA, hB, hN⟩ := id hI
      obtain ⟨m, rfl⟩ : ∃ m : Nat, b = (m : Int) := ⟨b.toNat, by omega⟩
      refine gj_aload_n (pc' := 30) dX10_sends_29 rfl rfl ?_
      refine gj_iload (pc' := 32) dX10_sends_30 rfl rfl ?_
      first | refine gj_ifB_eq (pc' := 35) (tgt := 44) dX10_sends_32 (by decide) rfl (fun c32 => ?_) (fun c32 => ?_) | refine gj_if_eq (pc' := 35) (tgt := 44) dX10_sends_32 (by decide) rfl (by omega) (fun c32 => ?_) (fun c32 => ?_)
      · first | have g32 := of_decide_eq_true c32 | have g32 := of_decide_eq_false c32 | skip
        refine gj_iload_n (pc' := 45) dX10_sends_44 rfl rfl ?_
        refine gj_iload_n (pc' := 46) dX10_sends_45 rfl rfl ?_
        refine gj_iload_n (pc' := 47) dX10_sends_46 rfl rfl ?_
        refine gr_X10_293 (pc' := 50) dX10_sends_47 rfl (s_gain) rfl (by decide) rfl (Nat.le_of_ble_eq_true rfl) ?_
        refine gc_X10_105 (pc' := 53) dX10_sends_50 rfl (x_grant) rfl (by first | rfl | assumption) (by decide) rfl (Nat.le_of_ble_eq_true rfl) (fun v9 h9 q9 => ?_)
        obtain ⟨rfl, q9a, q9b⟩ := q9
        show gJ _ _ _ _ _ _ _ (.int (zI _) :: _) _ _
        refine gj_iret rfl dX10_sends_53 ?_
        exact qX_i (by unfold aSends aToN; (try simp only [Int.toNat_natCast]); repeat' (first | (exfalso; omega) | split | rfl | simp_all)) q9a q9b
      · first | have g32 := of_decide_eq_true c32 | have g32 := of_decide_eq_false c32 | skip
        refine gj_iload_n (pc' := 36) dX10_sends_35 rfl rfl ?_
        refine gj_iload_n (pc' := 37) dX10_sends_36 rfl rfl ?_
        refine gj_iload_n (pc' := 38) dX10_sends_37 rfl rfl ?_
        refine gr_X10_293 (pc' := 41) dX10_sends_38 rfl (s_gain) rfl (by decide) rfl (Nat.le_of_ble_eq_true rfl) ?_
        refine gj_goto (pc' := 50) dX10_sends_41 (by decide) ?_
        refine gc_X10_105 (pc' := 53) dX10_sends_50 rfl (x_grant) rfl (by first | rfl | assumption) (by decide) rfl (Nat.le_of_ble_eq_true rfl) (fun v9 h9 q9 => ?_)
        obtain ⟨rfl, q9a, q9b⟩ := q9
        show gJ _ _ _ _ _ _ _ (.int (zI _) :: _) _ _
        refine gj_iret rfl dX10_sends_53 ?_
        exact qX_i (by unfold aSends aToN; (try simp only [Int.toNat_natCast]); repeat' (first | (exfalso; omega) | split | rfl | simp_all)) q9a q9b
    · first | have g20 := of_decide_eq_true c20 | have g20 := of_decide_eq_false c20 | skip
      refine gj_aload_n (pc' := 24) dX10_sends_23 rfl rfl ?_
      refine gj_iconst (pc' := 25) dX10_sends_24 rfl ?_
      refine gc_X10_72 (pc' := 28) dX10_sends_25 rfl (x_refuse) rfl (by first | rfl | assumption) (by decide) rfl (Nat.le_of_ble_eq_true rfl) (fun v9 h9 q9 => ?_)
      obtain ⟨rfl, q9a, q9b⟩ := q9
      show gJ _ _ _ _ _ _ _ (.int (zI (-1)) :: _) _ _
      refine gj_iret rfl dX10_sends_28 ?_
      exact qX_i (by unfold aSends aToN; (try simp only [Int.toNat_natCast]); repeat' (first | (exfalso; omega) | split | rfl | simp_all)) q9a q9b
  · first | have g4 := of_decide_eq_true c4 | have g4 := of_decide_eq_false c4 | skip
    refine gj_aload_n (pc' := 8) dX10_sends_7 rfl rfl ?_
    refine gj_iconst (pc' := 9) dX10_sends_8 rfl ?_
    refine gc_X10_72 (pc' := 12) dX10_sends_9 rfl (x_refuse) rfl (by first | rfl | assumption) (by decide) rfl (Nat.le_of_ble_eq_true rfl) (fun v9 h9 q9 => ?_)
    obtain ⟨rfl, q9a, q9b⟩ := q9
    show gJ _ _ _ _ _ _ _ (.int (zI (-1)) :: _) _ _
    refine gj_iret rfl dX10_sends_12 ?_
    exact qX_i (by unfold aSends aToN; (try simp only [Int.toNat_natCast]); repeat' (first | (exfalso; omega) | split | rfl | simp_all)) q9a q9b
theorem x_rests {h : gH} {t : Nat} {T S : Nat → Nat} {b : Int} (hQ : XQ h t T S) (hb : inB b) : gSp 12 yX10_rests cX10_rests 4 (some .int) [.ref 0, .int (zI b)] h (qX (aRests T b).1 (aRests T b).2 h) := by
  obtain ⟨ht, hP, hF, hZ, -⟩ := id hQ
  obtain ⟨s0, s1, s2, s3, s4, s5, s6, s7, s8, s9, s10⟩ := shT ht
  have hb2 := hb; unfold inB at hb2
  refine gSp_of (by decide +kernel) (Nat.le_of_ble_eq_true rfl) ?_
  show gJ RX10 cX10_rests 4 (some .int) _ 0 [some (.ref 0), some (.int (zI b)), none, none] [] _ _
  refine gj_aload_n (pc' := 1) dX10_rests_0 rfl rfl ?_
  refine gr_X10_169 (pc' := 4) dX10_rests_1 rfl (x_hasTown hQ) rfl (by first | rfl | assumption) (by decide) rfl (Nat.le_of_ble_eq_true rfl) ?_
  first | refine gj_ifB_ne (pc' := 7) (tgt := 13) dX10_rests_4 (by decide) rfl (fun c4 => ?_) (fun c4 => ?_) | refine gj_if_ne (pc' := 7) (tgt := 13) dX10_rests_4 (by decide) rfl (by omega) (fun c4 => ?_) (fun c4 => ?_)
  · first | have g4 := of_decide_eq_true c4 | have g4 := of_decide_eq_false c4 | skip
    refine gj_iload_n (pc' := 14) dX10_rests_13 rfl rfl ?_
    refine gj_iconst (pc' := 15) dX10_rests_14 rfl ?_
    refine gj_bipush (pc' := 17) dX10_rests_15 rfl (by decide) ?_
    refine gr_X10_183 (pc' := 20) dX10_rests_17 rfl (x_isWithin hb (by unfold inB; omega) (by unfold inB; omega)) rfl (by decide) rfl (Nat.le_of_ble_eq_true rfl) ?_
    first | refine gj_ifB_ne (pc' := 23) (tgt := 29) dX10_rests_20 (by decide) rfl (fun c20 => ?_) (fun c20 => ?_) | refine gj_if_ne (pc' := 23) (tgt := 29) dX10_rests_20 (by decide) rfl (by omega) (fun c20 => ?_) (fun c20 => ?_)
    · first | have g20 := of_decide_eq_true c20 | have g20 := of_decide_eq_false c20 | skip
      have hI := hQ.ci (by omega)
      obtain ⟨-, -, hT, hS, hA, hB, hN⟩ := id hI
      obtain ⟨m, rfl⟩ : ∃ m : Nat, b = (m : Int) := ⟨b.toNat, by omega⟩
      refine gj_iconst (pc' := 30) dX10_rests_29 rfl ?_
      refine gj_istore_n (pc' := 31) dX10_rests_30 rfl (by decide) ?_
      refine gj_iconst (pc' := 32) dX10_rests_31 rfl ?_
      refine gj_istore_n (pc' := 33) dX10_rests_32 rfl (by decide) ?_
      refine gJ_wk (gJ_for (L := fun k => [some (.ref 0), some (.int (zI (m : Int))), some (.int (zI (sN (fun k => (rsP (m : Int) k).toNat) k : Nat))), some (.int (zI (k : Int)))]) (4) (fun k hb_k ih_k => ?_) (0) (Nat.zero_le _)) ?_
      · have es : sN (fun k => (rsP (m : Int) k).toNat) (k + 1) = sN (fun k => (rsP (m : Int) k).toNat) k + (rsP (m : Int) k).toNat := rfl
        refine gj_iload_n (pc' := 34) dX10_rests_33 rfl rfl ?_
        refine gj_iconst (pc' := 35) dX10_rests_34 rfl ?_
        refine gj_icmp_ge (pc' := 38) (tgt := 55) dX10_rests_35 (by decide) rfl (by omega) (fun c35 => ?_) (fun c35 => ?_)
        · refine gj_aload_n (pc' := 56) dX10_rests_55 rfl rfl ?_
          refine gj_iload_n (pc' := 57) dX10_rests_56 rfl rfl ?_
          refine gc_X10_105 (pc' := 60) dX10_rests_57 rfl (x_grant) rfl (by first | rfl | assumption) (by decide) rfl (Nat.le_of_ble_eq_true rfl) (fun v9 h9 q9 => ?_)
          obtain ⟨rfl, q9a, q9b⟩ := q9
          show gJ _ _ _ _ _ _ _ (.int (zI _) :: _) _ _
          refine gj_iret rfl dX10_rests_60 ?_
          exact qX_i (by unfold aRests aToN; rw [if_pos (by omega), if_pos (by omega)]; simp only [Int.toNat_natCast]; rw [show 4 = k by omega]) q9a q9b
        · refine gj_iload_n (pc' := 39) dX10_rests_38 rfl rfl ?_
          refine gj_iload_n (pc' := 40) dX10_rests_39 rfl rfl ?_
          refine gr_X10_297 (pc' := 43) dX10_rests_40 rfl (s_isRest (by omega) (by omega)) rfl (by decide) rfl (Nat.le_of_ble_eq_true rfl) ?_
          first | refine gj_ifB_eq (pc' := 46) (tgt := 49) dX10_rests_43 (by decide) rfl (fun c43 => ?_) (fun c43 => ?_) | refine gj_if_eq (pc' := 46) (tgt := 49) dX10_rests_43 (by decide) rfl (by omega) (fun c43 => ?_) (fun c43 => ?_)
          · first | have g43 := of_decide_eq_true c43 | have g43 := of_decide_eq_false c43 | skip
            refine gj_iinc (pc' := 52) dX10_rests_49 rfl rfl (by decide) ?_
            refine gj_goto (pc' := 33) dX10_rests_52 (by decide) ?_
            refine gJ_wk (ih_k (by omega)) ?_
            repeat' (first | exact True.intro | with_reducible exact rfl | refine And.intro ?_ ?_ | refine vI ?_ | refine vL ?_)
            all_goals first | omega | (rw [es, c43]; rfl) | (rw [es, c43]; omega)
          · first | have g43 := of_decide_eq_true c43 | have g43 := of_decide_eq_false c43 | skip
            refine gj_iinc (pc' := 49) dX10_rests_46 rfl rfl (by decide) ?_
            refine gj_iinc (pc' := 52) dX10_rests_49 rfl rfl (by decide) ?_
            refine gj_goto (pc' := 33) dX10_rests_52 (by decide) ?_
            refine gJ_wk (ih_k (by omega)) ?_
            repeat' (first | exact True.intro | with_reducible exact rfl | refine And.intro ?_ ?_ | refine vI ?_ | refine vL ?_)
            all_goals first | omega | (rw [es, c43]; rfl) | (rw [es, c43]; omega)
      · repeat' (first | exact True.intro | with_reducible exact rfl | refine And.intro ?_ ?_ | refine vI ?_ | refine vL ?_)
        all_goals first | rfl | omega
    · first | have g20 := of_decide_eq_true c20 | have g20 := of_decide_eq_false c20 | skip
      refine gj_aload_n (pc' := 24) dX10_rests_23 rfl rfl ?_
      refine gj_iconst (pc' := 25) dX10_rests_24 rfl ?_
      refine gc_X10_72 (pc' := 28) dX10_rests_25 rfl (x_refuse) rfl (by first | rfl | assumption) (by decide) rfl (Nat.le_of_ble_eq_true rfl) (fun v9 h9 q9 => ?_)
      obtain ⟨rfl, q9a, q9b⟩ := q9
      show gJ _ _ _ _ _ _ _ (.int (zI (-1)) :: _) _ _
      refine gj_iret rfl dX10_rests_28 ?_
      exact qX_i (by unfold aRests aToN; (try simp only [Int.toNat_natCast]); repeat' (first | (exfalso; omega) | split | rfl | simp_all)) q9a q9b
  · first | have g4 := of_decide_eq_true c4 | have g4 := of_decide_eq_false c4 | skip
    refine gj_aload_n (pc' := 8) dX10_rests_7 rfl rfl ?_
    refine gj_iconst (pc' := 9) dX10_rests_8 rfl ?_
    refine gc_X10_72 (pc' := 12) dX10_rests_9 rfl (x_refuse) rfl (by first | rfl | assumption) (by decide) rfl (Nat.le_of_ble_eq_true rfl) (fun v9 h9 q9 => ?_)
    obtain ⟨rfl, q9a, q9b⟩ := q9
    show gJ _ _ _ _ _ _ _ (.int (zI (-1)) :: _) _ _
    refine gj_iret rfl dX10_rests_12 ?_
    exact qX_i (by unfold aRests aToN; (try simp only [Int.toNat_natCast]); repeat' (first | (exfalso; omega) | split | rfl | simp_all)) q9a q9b
theorem x_rest {h : gH} {t : Nat} {T S : Nat → Nat} {b : Int} (hQ : XQ h t T S) (hb : inB b) : gSp 12 yX10_rest cX10_rest 3 (some .int) [.ref 0, .int (zI b)] h (qX (aRest T b).1 (aRest T b).2 h) := by
  obtain ⟨ht, hP, hF, hZ, -⟩ := id hQ
  obtain ⟨s0, s1, s2, s3, s4, s5, s6, s7, s8, s9, s10⟩ := shT ht
  have hb2 := hb; unfold inB at hb2
  refine gSp_of (by decide +kernel) (Nat.le_of_ble_eq_true rfl) ?_
  show gJ RX10 cX10_rest 3 (some .int) _ 0 [some (.ref 0), some (.int (zI b)), none] [] _ _
  refine gj_aload_n (pc' := 1) dX10_rest_0 rfl rfl ?_
  refine gr_X10_169 (pc' := 4) dX10_rest_1 rfl (x_hasTown hQ) rfl (by first | rfl | assumption) (by decide) rfl (Nat.le_of_ble_eq_true rfl) ?_
  first | refine gj_ifB_ne (pc' := 7) (tgt := 13) dX10_rest_4 (by decide) rfl (fun c4 => ?_) (fun c4 => ?_) | refine gj_if_ne (pc' := 7) (tgt := 13) dX10_rest_4 (by decide) rfl (by omega) (fun c4 => ?_) (fun c4 => ?_)
  · first | have g4 := of_decide_eq_true c4 | have g4 := of_decide_eq_false c4 | skip
    refine gj_iload_n (pc' := 14) dX10_rest_13 rfl rfl ?_
    refine gj_iconst (pc' := 15) dX10_rest_14 rfl ?_
    refine gj_bipush (pc' := 17) dX10_rest_15 rfl (by decide) ?_
    refine gr_X10_183 (pc' := 20) dX10_rest_17 rfl (x_isWithin hb (by unfold inB; omega) (by unfold inB; omega)) rfl (by decide) rfl (Nat.le_of_ble_eq_true rfl) ?_
    first | refine gj_ifB_ne (pc' := 23) (tgt := 29) dX10_rest_20 (by decide) rfl (fun c20 => ?_) (fun c20 => ?_) | refine gj_if_ne (pc' := 23) (tgt := 29) dX10_rest_20 (by decide) rfl (by omega) (fun c20 => ?_) (fun c20 => ?_)
    · first | have g20 := of_decide_eq_true c20 | have g20 := of_decide_eq_false c20 | skip
      have hI := hQ.ci (by omega)
      obtain ⟨-, -, hT, hS, hA, hB, hN⟩ := id hI
      obtain ⟨m, rfl⟩ : ∃ m : Nat, b = (m : Int) := ⟨b.toNat, by omega⟩
      refine gj_iconst (pc' := 30) dX10_rest_29 rfl ?_
      refine gj_istore_n (pc' := 31) dX10_rest_30 rfl (by decide) ?_
      refine gJ_wk (gJ_fI1 (L := fun k x => [some (.ref 0), some (.int (zI (m : Int))), some (.int (zI x))]) (I := fun k x => x = (k : Int) ∧ fstN (rsP (m : Int)) k = -2) (4) (fun k x hb_k iv_k ih_k => ?step_1) (0) (Nat.zero_le _) ?x0_1 ?iv0_1) ?ll0_1
      case ll0_1 =>
        repeat' (first | exact True.intro | with_reducible exact rfl | refine And.intro ?_ ?_ | refine vI ?_ | refine vL ?_)
        all_goals first | rfl | omega
      case iv0_1 =>
        exact ⟨rfl, rfl⟩
      obtain ⟨rfl, hk⟩ := iv_k
      have es := fstN_s (rsP (m : Int)) k
      refine gj_iload_n (pc' := 32) dX10_rest_31 rfl rfl ?_
      refine gj_iconst (pc' := 33) dX10_rest_32 rfl ?_
      refine gj_icmp_ge (pc' := 36) (tgt := 81) dX10_rest_33 (by decide) rfl (by omega) (fun c33 => ?_) (fun c33 => ?_)
      · refine gj_aload_n (pc' := 82) dX10_rest_81 rfl rfl ?_
        refine gj_bipush (pc' := 84) dX10_rest_82 rfl (by decide) ?_
        refine gc_X10_105 (pc' := 87) dX10_rest_84 rfl (x_grant) rfl (by first | rfl | assumption) (by decide) rfl (Nat.le_of_ble_eq_true rfl) (fun v9 h9 q9 => ?_)
        obtain ⟨rfl, q9a, q9b⟩ := q9
        show gJ _ _ _ _ _ _ _ (.int (zI _) :: _) _ _
        refine gj_iret rfl dX10_rest_87 ?_
        exact qX_i (by unfold aRest aToN; rw [if_pos (by omega), if_pos (by omega)]; simp only [Int.toNat_natCast]; rw [show 4 = k by omega, hk]; rfl) q9a q9b
      · refine gj_iload_n (pc' := 37) dX10_rest_36 rfl rfl ?_
        refine gj_iload_n (pc' := 38) dX10_rest_37 rfl rfl ?_
        refine gr_X10_297 (pc' := 41) dX10_rest_38 rfl (s_isRest (by omega) (by omega)) rfl (by decide) rfl (Nat.le_of_ble_eq_true rfl) ?_
        first | refine gj_ifB_eq (pc' := 44) (tgt := 75) dX10_rest_41 (by decide) rfl (fun c41 => ?_) (fun c41 => ?_) | refine gj_if_eq (pc' := 44) (tgt := 75) dX10_rest_41 (by decide) rfl (by omega) (fun c41 => ?_) (fun c41 => ?_)
        · first | have g41 := of_decide_eq_true c41 | have g41 := of_decide_eq_false c41 | skip
          refine gj_iinc (pc' := 78) dX10_rest_75 rfl rfl (by decide) ?_
          refine gj_goto (pc' := 31) dX10_rest_78 (by decide) ?_
          refine gJ_wk (ih_k ?x_2 (by omega) ?iv_2) ?ll_2
          case ll_2 =>
            repeat' (first | exact True.intro | with_reducible exact rfl | refine And.intro ?_ ?_ | refine vI ?_ | refine vL ?_)
            all_goals omega
          refine ⟨by omega, ?_⟩
          rw [es, if_neg (by rw [c41]; simp)]
          exact hk
        · first | have g41 := of_decide_eq_true c41 | have g41 := of_decide_eq_false c41 | skip
          refine gj_aload_n (pc' := 45) dX10_rest_44 rfl rfl ?_
          refine gj_iload_n (pc' := 46) dX10_rest_45 rfl rfl ?_
          refine gr_X10_300 (pc' := 49) dX10_rest_46 rfl (s_oneSends (by omega)) rfl (by decide) rfl (Nat.le_of_ble_eq_true rfl) ?_
          first | refine gj_ifB_eq (pc' := 52) (tgt := 57) dX10_rest_49 (by decide) rfl (fun c49 => ?_) (fun c49 => ?_) | refine gj_if_eq (pc' := 52) (tgt := 57) dX10_rest_49 (by decide) rfl (by omega) (fun c49 => ?_) (fun c49 => ?_)
          · first | have g49 := of_decide_eq_true c49 | have g49 := of_decide_eq_false c49 | skip
            refine gj_iconst (pc' := 58) dX10_rest_57 rfl ?_
            refine gj_iload_n (pc' := 59) dX10_rest_58 rfl rfl ?_
            refine gr_X10_303 (pc' := 62) dX10_rest_59 rfl (s_otherSends (by omega)) rfl (by decide) rfl (Nat.le_of_ble_eq_true rfl) ?_
            first | refine gj_ifB_eq (pc' := 65) (tgt := 69) dX10_rest_62 (by decide) rfl (fun c62 => ?_) (fun c62 => ?_) | refine gj_if_eq (pc' := 65) (tgt := 69) dX10_rest_62 (by decide) rfl (by omega) (fun c62 => ?_) (fun c62 => ?_)
            · first | have g62 := of_decide_eq_true c62 | have g62 := of_decide_eq_false c62 | skip
              refine gj_iconst (pc' := 70) dX10_rest_69 rfl ?_
              refine gj_iadd (pc' := 71) dX10_rest_70 rfl ?_
              refine gc_X10_105 (pc' := 74) dX10_rest_71 rfl (x_grant) rfl (by first | rfl | assumption) (by decide) rfl (Nat.le_of_ble_eq_true rfl) (fun v9 h9 q9 => ?_)
              obtain ⟨rfl, q9a, q9b⟩ := q9
              show gJ _ _ _ _ _ _ _ (.int (zI _) :: _) _ _
              refine gj_iret rfl dX10_rest_74 ?_
              exact qX_i (by unfold aRest aToN; rw [if_pos (by omega), if_pos (by omega)]; simp only [Int.toNat_natCast]; rw [fstN_hit hk c41 (by omega)]; unfold rsV; rw [if_neg (by omega)]; congr 1; omega) q9a q9b
            · first | have g62 := of_decide_eq_true c62 | have g62 := of_decide_eq_false c62 | skip
              refine gj_iconst (pc' := 66) dX10_rest_65 rfl ?_
              refine gj_goto (pc' := 70) dX10_rest_66 (by decide) ?_
              refine gj_iadd (pc' := 71) dX10_rest_70 rfl ?_
              refine gc_X10_105 (pc' := 74) dX10_rest_71 rfl (x_grant) rfl (by first | rfl | assumption) (by decide) rfl (Nat.le_of_ble_eq_true rfl) (fun v9 h9 q9 => ?_)
              obtain ⟨rfl, q9a, q9b⟩ := q9
              show gJ _ _ _ _ _ _ _ (.int (zI _) :: _) _ _
              refine gj_iret rfl dX10_rest_74 ?_
              exact qX_i (by unfold aRest aToN; rw [if_pos (by omega), if_pos (by omega)]; simp only [Int.toNat_natCast]; rw [fstN_hit hk c41 (by omega)]; unfold rsV; rw [if_neg (by omega)]; congr 1; omega) q9a q9b
          · first | have g49 := of_decide_eq_true c49 | have g49 := of_decide_eq_false c49 | skip
            refine gj_bipush (pc' := 54) dX10_rest_52 rfl (by decide) ?_
            refine gj_goto (pc' := 58) dX10_rest_54 (by decide) ?_
            refine gj_iload_n (pc' := 59) dX10_rest_58 rfl rfl ?_
            refine gr_X10_303 (pc' := 62) dX10_rest_59 rfl (s_otherSends (by omega)) rfl (by decide) rfl (Nat.le_of_ble_eq_true rfl) ?_
            first | refine gj_ifB_eq (pc' := 65) (tgt := 69) dX10_rest_62 (by decide) rfl (fun c62 => ?_) (fun c62 => ?_) | refine gj_if_eq (pc' := 65) (tgt := 69) dX10_rest_62 (by decide) rfl (by omega) (fun c62 => ?_) (fun c62 => ?_)
            · first | have g62 := of_decide_eq_true c62 | have g62 := of_decide_eq_false c62 | skip
              refine gj_iconst (pc' := 70) dX10_rest_69 rfl ?_
              refine gj_iadd (pc' := 71) dX10_rest_70 rfl ?_
              refine gc_X10_105 (pc' := 74) dX10_rest_71 rfl (x_grant) rfl (by first | rfl | assumption) (by decide) rfl (Nat.le_of_ble_eq_true rfl) (fun v9 h9 q9 => ?_)
              obtain ⟨rfl, q9a, q9b⟩ := q9
              show gJ _ _ _ _ _ _ _ (.int (zI _) :: _) _ _
              refine gj_iret rfl dX10_rest_74 ?_
              exact qX_i (by unfold aRest aToN; rw [if_pos (by omega), if_pos (by omega)]; simp only [Int.toNat_natCast]; rw [fstN_hit hk c41 (by omega)]; unfold rsV; rw [if_neg (by omega)]; congr 1; omega) q9a q9b
            · first | have g62 := of_decide_eq_true c62 | have g62 := of_decide_eq_false c62 | skip
              refine gj_iconst (pc' := 66) dX10_rest_65 rfl ?_
              refine gj_goto (pc' := 70) dX10_rest_66 (by decide) ?_
              refine gj_iadd (pc' := 71) dX10_rest_70 rfl ?_
              refine gc_X10_105 (pc' := 74) dX10_rest_71 rfl (x_grant) rfl (by first | rfl | assumption) (by decide) rfl (Nat.le_of_ble_eq_true rfl) (fun v9 h9 q9 => ?_)
              obtain ⟨rfl, q9a, q9b⟩ := q9
              show gJ _ _ _ _ _ _ _ (.int (zI _) :: _) _ _
              refine gj_iret rfl dX10_rest_74 ?_
              exact qX_i (by unfold aRest aToN; rw [if_pos (by omega), if_pos (by omega)]; simp only [Int.toNat_natCast]; rw [fstN_hit hk c41 (by omega)]; unfold rsV; rw [if_neg (by omega)]; congr 1; omega) q9a q9b
    · first | have g20 := of_decide_eq_true c20 | have g20 := of_decide_eq_false c20 | skip
      refine gj_aload_n (pc' := 24) dX10_rest_23 rfl rfl ?_
      refine gj_iconst (pc' := 25) dX10_rest_24 rfl ?_
      refine gc_X10_72 (pc' := 28) dX10_rest_25 rfl (x_refuse) rfl (by first | rfl | assumption) (by decide) rfl (Nat.le_of_ble_eq_true rfl) (fun v9 h9 q9 => ?_)
      obtain ⟨rfl, q9a, q9b⟩ := q9
      show gJ _ _ _ _ _ _ _ (.int (zI (-1)) :: _) _ _
      refine gj_iret rfl dX10_rest_28 ?_
      exact qX_i (by unfold aRest aToN; (try simp only [Int.toNat_natCast]); repeat' (first | (exfalso; omega) | split | rfl | simp_all)) q9a q9b
  · first | have g4 := of_decide_eq_true c4 | have g4 := of_decide_eq_false c4 | skip
    refine gj_aload_n (pc' := 8) dX10_rest_7 rfl rfl ?_
    refine gj_iconst (pc' := 9) dX10_rest_8 rfl ?_
    refine gc_X10_72 (pc' := 12) dX10_rest_9 rfl (x_refuse) rfl (by first | rfl | assumption) (by decide) rfl (Nat.le_of_ble_eq_true rfl) (fun v9 h9 q9 => ?_)
    obtain ⟨rfl, q9a, q9b⟩ := q9
    show gJ _ _ _ _ _ _ _ (.int (zI (-1)) :: _) _ _
    refine gj_iret rfl dX10_rest_12 ?_
    exact qX_i (by unfold aRest aToN; (try simp only [Int.toNat_natCast]); repeat' (first | (exfalso; omega) | split | rfl | simp_all)) q9a q9b
theorem x_safe {h : gH} {t : Nat} {T S : Nat → Nat} {a b : Int} {l : Bool} (hQ : XQ h t T S) (ha : inB a) (hb : inB b) : gSp 12 yX10_safe cX10_safe 4 (some .long) [.ref 0, .int (zI a), .int (zI b), .int (zI (bI l))] h (qXL (aSafe T S a b l).1 (aSafe T S a b l).2 h) := by
  obtain ⟨ht, hP, hF, hZ, -⟩ := id hQ
  obtain ⟨s0, s1, s2, s3, s4, s5, s6, s7, s8, s9, s10⟩ := shT ht
  have ha2 := ha; unfold inB at ha2
  have hb2 := hb; unfold inB at hb2
  refine gSp_of (by decide +kernel) (Nat.le_of_ble_eq_true rfl) ?_
  show gJ RX10 cX10_safe 4 (some .long) _ 0 [some (.ref 0), some (.int (zI a)), some (.int (zI b)), some (.int (zI (bI l)))] [] _ _
  refine gj_aload_n (pc' := 1) dX10_safe_0 rfl rfl ?_
  refine gj_iload_n (pc' := 2) dX10_safe_1 rfl rfl ?_
  refine gr_X10_134 (pc' := 5) dX10_safe_2 rfl (x_isBird hQ ha) rfl (by first | rfl | assumption) (by decide) rfl (Nat.le_of_ble_eq_true rfl) ?_
  first | refine gj_ifB_ne (pc' := 8) (tgt := 15) dX10_safe_5 (by decide) rfl (fun c5 => ?_) (fun c5 => ?_) | refine gj_if_ne (pc' := 8) (tgt := 15) dX10_safe_5 (by decide) rfl (by omega) (fun c5 => ?_) (fun c5 => ?_)
  · first | have g5 := of_decide_eq_true c5 | have g5 := of_decide_eq_false c5 | skip
    refine gj_iload_n (pc' := 16) dX10_safe_15 rfl rfl ?_
    refine gj_iconst (pc' := 17) dX10_safe_16 rfl ?_
    refine gj_bipush (pc' := 19) dX10_safe_17 rfl (by decide) ?_
    refine gr_X10_183 (pc' := 22) dX10_safe_19 rfl (x_isWithin hb (by unfold inB; omega) (by unfold inB; omega)) rfl (by decide) rfl (Nat.le_of_ble_eq_true rfl) ?_
    first | refine gj_ifB_ne (pc' := 25) (tgt := 32) dX10_safe_22 (by decide) rfl (fun c22 => ?_) (fun c22 => ?_) | refine gj_if_ne (pc' := 25) (tgt := 32) dX10_safe_22 (by decide) rfl (by omega) (fun c22 => ?_) (fun c22 => ?_)
    · first | have g22 := of_decide_eq_true c22 | have g22 := of_decide_eq_false c22 | skip
      obtain ⟨n, rfl⟩ : ∃ n : Nat, a = (n : Int) := ⟨a.toNat, by omega⟩
      have hI := hQ.ci (by omega)
      obtain ⟨-, -, hT, hS, hA, hB, hN⟩ := id hI
      obtain ⟨m, rfl⟩ : ∃ m : Nat, b = (m : Int) := ⟨b.toNat, by omega⟩
      have hd := hS.2.2.1
      refine gj_aload_n (pc' := 33) dX10_safe_32 rfl rfl ?_
      refine gf_X10_19 (pc' := 36) dX10_safe_33 rfl (by first | rfl | assumption) rfl ?_
      refine gj_aload_n (pc' := 37) dX10_safe_36 rfl rfl ?_
      refine gf_X10_54 (pc' := 40) dX10_safe_37 rfl (by first | rfl | assumption) rfl ?_
      rw [hP]
      refine gj_iload_n (pc' := 41) dX10_safe_40 rfl rfl ?_
      refine gj_aload_n (pc' := 42) dX10_safe_41 rfl rfl ?_
      refine gf_X10_19 (pc' := 45) dX10_safe_42 rfl (by first | rfl | assumption) rfl ?_
      refine gf_X10_123 (pc' := 48) dX10_safe_45 rfl (by first | rfl | assumption) rfl ?_
      rw [hN.1]
      refine gr_X10_306 (pc' := 51) dX10_safe_48 rfl (s_sitsOn hI (by omega) (by omega)) rfl (by first | rfl | assumption) (by decide) rfl (Nat.le_of_ble_eq_true rfl) ?_
      first | refine gj_ifB_ne (pc' := 54) (tgt := 61) dX10_safe_51 (by decide) rfl (fun c51 => ?_) (fun c51 => ?_) | refine gj_if_ne (pc' := 54) (tgt := 61) dX10_safe_51 (by decide) rfl (by omega) (fun c51 => ?_) (fun c51 => ?_)
      · first | have g51 := of_decide_eq_true c51 | have g51 := of_decide_eq_false c51 | skip
        refine gj_aload_n (pc' := 62) dX10_safe_61 rfl rfl ?_
        refine gj_aload_n (pc' := 63) dX10_safe_62 rfl rfl ?_
        refine gf_X10_54 (pc' := 66) dX10_safe_63 rfl (by first | rfl | assumption) rfl ?_
        rw [hP]
        refine gf_X10_309 (pc' := 69) dX10_safe_66 rfl (by first | rfl | assumption) rfl ?_
        rw [hA.1 1 (by omega)]
        refine gj_iload_n (pc' := 70) dX10_safe_69 rfl rfl ?_
        refine gj_iload_n (pc' := 71) dX10_safe_70 rfl rfl ?_
        refine gr_X10_312 (pc' := 74) dX10_safe_71 rfl (s_untaken hT.2.1 (by omega)) rfl (by decide) rfl (Nat.le_of_ble_eq_true rfl) ?_
        refine gc_X10_318 (pc' := 77) dX10_safe_74 rfl (x_grantLong) rfl (by first | rfl | assumption) (by decide) rfl (Nat.le_of_ble_eq_true rfl) (fun v9 h9 q9 => ?_)
        obtain ⟨rfl, q9a, q9b⟩ := q9
        show gJ _ _ _ _ _ _ _ (.long (zL _) :: _) _ _
        refine gj_lret rfl dX10_safe_77 ?_
        exact qXL_i (by unfold aSafe; (try simp only [Int.toNat_natCast]); repeat' (first | (exfalso; omega) | split | rfl | simp_all)) q9a q9b
      · first | have g51 := of_decide_eq_true c51 | have g51 := of_decide_eq_false c51 | skip
        refine gj_aload_n (pc' := 55) dX10_safe_54 rfl rfl ?_
        refine gj_iconst (pc' := 56) dX10_safe_55 rfl ?_
        refine gc_X10_72 (pc' := 59) dX10_safe_56 rfl (x_refuse) rfl (by first | rfl | assumption) (by decide) rfl (Nat.le_of_ble_eq_true rfl) (fun v9 h9 q9 => ?_)
        obtain ⟨rfl, q9a, q9b⟩ := q9
        show gJ _ _ _ _ _ _ _ (.int (zI (-1)) :: _) _ _
        refine gj_i2l (pc' := 60) dX10_safe_59 rfl (by omega) ?_
        refine gj_lret rfl dX10_safe_60 ?_
        exact qXL_i (by unfold aSafe; (try simp only [Int.toNat_natCast]); repeat' (first | (exfalso; omega) | split | rfl | simp_all)) q9a q9b
    · first | have g22 := of_decide_eq_true c22 | have g22 := of_decide_eq_false c22 | skip
      refine gj_aload_n (pc' := 26) dX10_safe_25 rfl rfl ?_
      refine gj_iconst (pc' := 27) dX10_safe_26 rfl ?_
      refine gc_X10_72 (pc' := 30) dX10_safe_27 rfl (x_refuse) rfl (by first | rfl | assumption) (by decide) rfl (Nat.le_of_ble_eq_true rfl) (fun v9 h9 q9 => ?_)
      obtain ⟨rfl, q9a, q9b⟩ := q9
      show gJ _ _ _ _ _ _ _ (.int (zI (-1)) :: _) _ _
      refine gj_i2l (pc' := 31) dX10_safe_30 rfl (by omega) ?_
      refine gj_lret rfl dX10_safe_31 ?_
      exact qXL_i (by unfold aSafe; (try simp only [Int.toNat_natCast]); repeat' (first | (exfalso; omega) | split | rfl | simp_all)) q9a q9b
  · first | have g5 := of_decide_eq_true c5 | have g5 := of_decide_eq_false c5 | skip
    refine gj_aload_n (pc' := 9) dX10_safe_8 rfl rfl ?_
    refine gj_iconst (pc' := 10) dX10_safe_9 rfl ?_
    refine gc_X10_72 (pc' := 13) dX10_safe_10 rfl (x_refuse) rfl (by first | rfl | assumption) (by decide) rfl (Nat.le_of_ble_eq_true rfl) (fun v9 h9 q9 => ?_)
    obtain ⟨rfl, q9a, q9b⟩ := q9
    show gJ _ _ _ _ _ _ _ (.int (zI (-1)) :: _) _ _
    refine gj_i2l (pc' := 14) dX10_safe_13 rfl (by omega) ?_
    refine gj_lret rfl dX10_safe_14 ?_
    exact qXL_i (by unfold aSafe; (try simp only [Int.toNat_natCast]); repeat' (first | (exfalso; omega) | split | rfl | simp_all)) q9a q9b
theorem x_left {h : gH} {t : Nat} {T S : Nat → Nat} {a b : Int} {l : Bool} (hQ : XQ h t T S) (ha : inB a) (hb : inB b) : gSp 12 yX10_left cX10_left 5 (some .long) [.ref 0, .int (zI a), .int (zI b), .int (zI (bI l))] h (qXL (aLeft T S a b l).1 (aLeft T S a b l).2 h) := by
  obtain ⟨ht, hP, hF, hZ, -⟩ := id hQ
  obtain ⟨s0, s1, s2, s3, s4, s5, s6, s7, s8, s9, s10⟩ := shT ht
  have ha2 := ha; unfold inB at ha2
  have hb2 := hb; unfold inB at hb2
  refine gSp_of (by decide +kernel) (Nat.le_of_ble_eq_true rfl) ?_
  show gJ RX10 cX10_left 5 (some .long) _ 0 [some (.ref 0), some (.int (zI a)), some (.int (zI b)), some (.int (zI (bI l))), none] [] _ _
  refine gj_aload_n (pc' := 1) dX10_left_0 rfl rfl ?_
  refine gj_iload_n (pc' := 2) dX10_left_1 rfl rfl ?_
  refine gr_X10_111 (pc' := 5) dX10_left_2 rfl (x_isHouse hQ ha) rfl (by first | rfl | assumption) (by decide) rfl (Nat.le_of_ble_eq_true rfl) ?_
  first | refine gj_ifB_ne (pc' := 8) (tgt := 15) dX10_left_5 (by decide) rfl (fun c5 => ?_) (fun c5 => ?_) | refine gj_if_ne (pc' := 8) (tgt := 15) dX10_left_5 (by decide) rfl (by omega) (fun c5 => ?_) (fun c5 => ?_)
  · first | have g5 := of_decide_eq_true c5 | have g5 := of_decide_eq_false c5 | skip
    refine gj_iload_n (pc' := 16) dX10_left_15 rfl rfl ?_
    refine gj_iconst (pc' := 17) dX10_left_16 rfl ?_
    refine gj_bipush (pc' := 19) dX10_left_17 rfl (by decide) ?_
    refine gr_X10_183 (pc' := 22) dX10_left_19 rfl (x_isWithin hb (by unfold inB; omega) (by unfold inB; omega)) rfl (by decide) rfl (Nat.le_of_ble_eq_true rfl) ?_
    first | refine gj_ifB_ne (pc' := 25) (tgt := 32) dX10_left_22 (by decide) rfl (fun c22 => ?_) (fun c22 => ?_) | refine gj_if_ne (pc' := 25) (tgt := 32) dX10_left_22 (by decide) rfl (by omega) (fun c22 => ?_) (fun c22 => ?_)
    · first | have g22 := of_decide_eq_true c22 | have g22 := of_decide_eq_false c22 | skip
      obtain ⟨n, rfl⟩ : ∃ n : Nat, a = (n : Int) := ⟨a.toNat, by omega⟩
      have hI := hQ.ci (by omega)
      obtain ⟨-, -, hT, hS, hA, hB, hN⟩ := id hI
      obtain ⟨m, rfl⟩ : ∃ m : Nat, b = (m : Int) := ⟨b.toNat, by omega⟩
      have hd := hS.2.2.1
      have hl : sSet T S n (S 20) < 256 := pc_lt hZ.2.1
      have h7 : pcN (sSet T S n (S 20)) ≤ 7 := by
        have := sN_le (f := fun k => (sSit T S n (S 20) k).toNat) (c := 1) (n := T 4) (fun i _ => Bool.toNat_le _)
        have e : pcN (sSet T S n (S 20)) = sN (fun k => (sSit T S n (S 20) k).toNat) (T 4) := pcN_bN _ (by omega)
        omega
      refine gj_aload_n (pc' := 33) dX10_left_32 rfl rfl ?_
      refine gf_X10_19 (pc' := 36) dX10_left_33 rfl (by first | rfl | assumption) rfl ?_
      refine gj_aload_n (pc' := 37) dX10_left_36 rfl rfl ?_
      refine gf_X10_54 (pc' := 40) dX10_left_37 rfl (by first | rfl | assumption) rfl ?_
      rw [hP]
      refine gj_iload_n (pc' := 41) dX10_left_40 rfl rfl ?_
      refine gj_aload_n (pc' := 42) dX10_left_41 rfl rfl ?_
      refine gf_X10_19 (pc' := 45) dX10_left_42 rfl (by first | rfl | assumption) rfl ?_
      refine gf_X10_123 (pc' := 48) dX10_left_45 rfl (by first | rfl | assumption) rfl ?_
      rw [hN.1]
      refine gr_X10_126 (pc' := 51) dX10_left_48 rfl (s_sitters hI (by omega) (by omega)) rfl (by first | rfl | assumption) (by decide) rfl (Nat.le_of_ble_eq_true rfl) ?_
      refine gr_X10_187 (pc' := 54) dX10_left_51 rfl (s_bitCount hl) rfl (by decide) rfl (Nat.le_of_ble_eq_true rfl) ?_
      refine gj_istore (pc' := 56) dX10_left_54 rfl (by decide) ?_
      refine gj_aload_n (pc' := 57) dX10_left_56 rfl rfl ?_
      refine gj_aload_n (pc' := 58) dX10_left_57 rfl rfl ?_
      refine gf_X10_54 (pc' := 61) dX10_left_58 rfl (by first | rfl | assumption) rfl ?_
      rw [hP]
      refine gf_X10_309 (pc' := 64) dX10_left_61 rfl (by first | rfl | assumption) rfl ?_
      rw [hA.1 1 (by omega)]
      refine gj_iload (pc' := 66) dX10_left_64 rfl rfl ?_
      refine gj_iload_n (pc' := 67) dX10_left_66 rfl rfl ?_
      refine gj_iload_n (pc' := 68) dX10_left_67 rfl rfl ?_
      refine gr_X10_322 (pc' := 71) dX10_left_68 rfl (s_untakenOf hT.2.1 h7 (by omega)) rfl (by decide) rfl (Nat.le_of_ble_eq_true rfl) ?_
      refine gc_X10_318 (pc' := 74) dX10_left_71 rfl (x_grantLong) rfl (by first | rfl | assumption) (by decide) rfl (Nat.le_of_ble_eq_true rfl) (fun v9 h9 q9 => ?_)
      obtain ⟨rfl, q9a, q9b⟩ := q9
      show gJ _ _ _ _ _ _ _ (.long (zL _) :: _) _ _
      refine gj_lret rfl dX10_left_74 ?_
      exact qXL_i (by unfold aLeft aHoN; (try simp only [Int.toNat_natCast]); repeat' (first | (exfalso; omega) | split | rfl | simp_all)) q9a q9b
    · first | have g22 := of_decide_eq_true c22 | have g22 := of_decide_eq_false c22 | skip
      refine gj_aload_n (pc' := 26) dX10_left_25 rfl rfl ?_
      refine gj_iconst (pc' := 27) dX10_left_26 rfl ?_
      refine gc_X10_72 (pc' := 30) dX10_left_27 rfl (x_refuse) rfl (by first | rfl | assumption) (by decide) rfl (Nat.le_of_ble_eq_true rfl) (fun v9 h9 q9 => ?_)
      obtain ⟨rfl, q9a, q9b⟩ := q9
      show gJ _ _ _ _ _ _ _ (.int (zI (-1)) :: _) _ _
      refine gj_i2l (pc' := 31) dX10_left_30 rfl (by omega) ?_
      refine gj_lret rfl dX10_left_31 ?_
      exact qXL_i (by unfold aLeft aHoN; (try simp only [Int.toNat_natCast]); repeat' (first | (exfalso; omega) | split | rfl | simp_all)) q9a q9b
  · first | have g5 := of_decide_eq_true c5 | have g5 := of_decide_eq_false c5 | skip
    refine gj_aload_n (pc' := 9) dX10_left_8 rfl rfl ?_
    refine gj_iconst (pc' := 10) dX10_left_9 rfl ?_
    refine gc_X10_72 (pc' := 13) dX10_left_10 rfl (x_refuse) rfl (by first | rfl | assumption) (by decide) rfl (Nat.le_of_ble_eq_true rfl) (fun v9 h9 q9 => ?_)
    obtain ⟨rfl, q9a, q9b⟩ := q9
    show gJ _ _ _ _ _ _ _ (.int (zI (-1)) :: _) _ _
    refine gj_i2l (pc' := 14) dX10_left_13 rfl (by omega) ?_
    refine gj_lret rfl dX10_left_14 ?_
    exact qXL_i (by unfold aLeft aHoN; (try simp only [Int.toNat_natCast]); repeat' (first | (exfalso; omega) | split | rfl | simp_all)) q9a q9b
theorem x_stays {h : gH} {t : Nat} {T S : Nat → Nat} {b : Int} {l : Bool} (hQ : XQ h t T S) (hb : inB b) : gSp 12 yX10_stays cX10_stays 3 (some .long) [.ref 0, .int (zI b), .int (zI (bI l))] h (qXL (aStays T b l).1 (aStays T b l).2 h) := by
  obtain ⟨ht, hP, hF, hZ, -⟩ := id hQ
  obtain ⟨s0, s1, s2, s3, s4, s5, s6, s7, s8, s9, s10⟩ := shT ht
  have hb2 := hb; unfold inB at hb2
  refine gSp_of (by decide +kernel) (Nat.le_of_ble_eq_true rfl) ?_
  show gJ RX10 cX10_stays 3 (some .long) _ 0 [some (.ref 0), some (.int (zI b)), some (.int (zI (bI l)))] [] _ _
  refine gj_aload_n (pc' := 1) dX10_stays_0 rfl rfl ?_
  refine gr_X10_169 (pc' := 4) dX10_stays_1 rfl (x_hasTown hQ) rfl (by first | rfl | assumption) (by decide) rfl (Nat.le_of_ble_eq_true rfl) ?_
  first | refine gj_ifB_ne (pc' := 7) (tgt := 14) dX10_stays_4 (by decide) rfl (fun c4 => ?_) (fun c4 => ?_) | refine gj_if_ne (pc' := 7) (tgt := 14) dX10_stays_4 (by decide) rfl (by omega) (fun c4 => ?_) (fun c4 => ?_)
  · first | have g4 := of_decide_eq_true c4 | have g4 := of_decide_eq_false c4 | skip
    refine gj_iload_n (pc' := 15) dX10_stays_14 rfl rfl ?_
    refine gj_iconst (pc' := 16) dX10_stays_15 rfl ?_
    refine gj_bipush (pc' := 18) dX10_stays_16 rfl (by decide) ?_
    refine gr_X10_183 (pc' := 21) dX10_stays_18 rfl (x_isWithin hb (by unfold inB; omega) (by unfold inB; omega)) rfl (by decide) rfl (Nat.le_of_ble_eq_true rfl) ?_
    first | refine gj_ifB_ne (pc' := 24) (tgt := 31) dX10_stays_21 (by decide) rfl (fun c21 => ?_) (fun c21 => ?_) | refine gj_if_ne (pc' := 24) (tgt := 31) dX10_stays_21 (by decide) rfl (by omega) (fun c21 => ?_) (fun c21 => ?_)
    · first | have g21 := of_decide_eq_true c21 | have g21 := of_decide_eq_false c21 | skip
      have hI := hQ.ci (by omega)
      obtain ⟨-, -, hT, hS, hA, hB, hN⟩ := id hI
      obtain ⟨m, rfl⟩ : ∃ m : Nat, b = (m : Int) := ⟨b.toNat, by omega⟩
      refine gj_aload_n (pc' := 32) dX10_stays_31 rfl rfl ?_
      refine gj_aload_n (pc' := 33) dX10_stays_32 rfl rfl ?_
      refine gf_X10_54 (pc' := 36) dX10_stays_33 rfl (by first | rfl | assumption) rfl ?_
      rw [hP]
      refine gf_X10_309 (pc' := 39) dX10_stays_36 rfl (by first | rfl | assumption) rfl ?_
      rw [hA.1 1 (by omega)]
      refine gj_iload_n (pc' := 40) dX10_stays_39 rfl rfl ?_
      refine gj_iload_n (pc' := 41) dX10_stays_40 rfl rfl ?_
      refine gr_X10_326 (pc' := 44) dX10_stays_41 rfl (s_meanDays hT.2.1 (by omega)) rfl (by decide) rfl (Nat.le_of_ble_eq_true rfl) ?_
      refine gc_X10_318 (pc' := 47) dX10_stays_44 rfl (x_grantLong) rfl (by first | rfl | assumption) (by decide) rfl (Nat.le_of_ble_eq_true rfl) (fun v9 h9 q9 => ?_)
      obtain ⟨rfl, q9a, q9b⟩ := q9
      show gJ _ _ _ _ _ _ _ (.long (zL _) :: _) _ _
      refine gj_lret rfl dX10_stays_47 ?_
      exact qXL_i (by unfold aStays aToN; (try simp only [Int.toNat_natCast]); repeat' (first | (exfalso; omega) | split | rfl | simp_all)) q9a q9b
    · first | have g21 := of_decide_eq_true c21 | have g21 := of_decide_eq_false c21 | skip
      refine gj_aload_n (pc' := 25) dX10_stays_24 rfl rfl ?_
      refine gj_iconst (pc' := 26) dX10_stays_25 rfl ?_
      refine gc_X10_72 (pc' := 29) dX10_stays_26 rfl (x_refuse) rfl (by first | rfl | assumption) (by decide) rfl (Nat.le_of_ble_eq_true rfl) (fun v9 h9 q9 => ?_)
      obtain ⟨rfl, q9a, q9b⟩ := q9
      show gJ _ _ _ _ _ _ _ (.int (zI (-1)) :: _) _ _
      refine gj_i2l (pc' := 30) dX10_stays_29 rfl (by omega) ?_
      refine gj_lret rfl dX10_stays_30 ?_
      exact qXL_i (by unfold aStays aToN; (try simp only [Int.toNat_natCast]); repeat' (first | (exfalso; omega) | split | rfl | simp_all)) q9a q9b
  · first | have g4 := of_decide_eq_true c4 | have g4 := of_decide_eq_false c4 | skip
    refine gj_aload_n (pc' := 8) dX10_stays_7 rfl rfl ?_
    refine gj_iconst (pc' := 9) dX10_stays_8 rfl ?_
    refine gc_X10_72 (pc' := 12) dX10_stays_9 rfl (x_refuse) rfl (by first | rfl | assumption) (by decide) rfl (Nat.le_of_ble_eq_true rfl) (fun v9 h9 q9 => ?_)
    obtain ⟨rfl, q9a, q9b⟩ := q9
    show gJ _ _ _ _ _ _ _ (.int (zI (-1)) :: _) _ _
    refine gj_i2l (pc' := 13) dX10_stays_12 rfl (by omega) ?_
    refine gj_lret rfl dX10_stays_13 ?_
    exact qXL_i (by unfold aStays aToN; (try simp only [Int.toNat_natCast]); repeat' (first | (exfalso; omega) | split | rfl | simp_all)) q9a q9b
