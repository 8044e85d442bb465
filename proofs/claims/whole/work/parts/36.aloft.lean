/-! the face: aloft -/
theorem s_begin {h : gH} {x : Int} : gSp 1 yX6_begin cX6_begin 2 none [.ref 141, .int (zI x)] h (fun v h' => v = none ∧ h' = gui h 141 0 x) := by
  refine gSp_of (by decide +kernel) (Nat.le_of_ble_eq_true rfl) ?_
  show gJ RX6 cX6_begin 2 none _ 0 [some (.ref 141), some (.int (zI x))] [] _ _
  refine gj_aload_n (pc' := 1) dX6_begin_0 rfl rfl ?_
  refine gj_iload_n (pc' := 2) dX6_begin_1 rfl rfl ?_
  refine gp_X6_9 (pc' := 5) dX6_begin_2 rfl (by first | rfl | assumption) rfl ?_
  refine gj_vret rfl dX6_begin_5 ?_
  exact ⟨rfl, rfl⟩
theorem x_aloft {h : gH} {t : Nat} {T S : Nat → Nat} {a b : Int} (hQ : XQ h t T S) (ha : inB a) (hb : inB b) : gSp 12 yX10_aloft cX10_aloft 3 (some .int) [.ref 0, .int (zI a), .int (zI b)] h (qX (aBiN T a b (fun n m => alF (tFl T n) (T 2) m) 65536).1 (aBiN T a b (fun n m => alF (tFl T n) (T 2) m) 65536).2 h) := by
  obtain ⟨ht, hP, hF, hZ, -⟩ := id hQ
  obtain ⟨s0, s1, s2, s3, s4, s5, s6, s7, s8, s9, s10⟩ := shT ht
  have ha2 := ha; unfold inB at ha2
  have hb2 := hb; unfold inB at hb2
  refine gSp_of (by decide +kernel) (Nat.le_of_ble_eq_true rfl) ?_
  show gJ RX10 cX10_aloft 3 (some .int) _ 0 [some (.ref 0), some (.int (zI a)), some (.int (zI b))] [] _ _
  refine gj_aload_n (pc' := 1) dX10_aloft_0 rfl rfl ?_
  refine gj_iload_n (pc' := 2) dX10_aloft_1 rfl rfl ?_
  refine gr_X10_134 (pc' := 5) dX10_aloft_2 rfl (x_isBird hQ ha) rfl (by first | rfl | assumption) (by decide) rfl (Nat.le_of_ble_eq_true rfl) ?_
  first | refine gj_ifB_ne (pc' := 8) (tgt := 14) dX10_aloft_5 (by decide) rfl (fun c5 => ?_) (fun c5 => ?_) | refine gj_if_ne (pc' := 8) (tgt := 14) dX10_aloft_5 (by decide) rfl (by omega) (fun c5 => ?_) (fun c5 => ?_)
  · first | have g5 := of_decide_eq_true c5 | have g5 := of_decide_eq_false c5 | skip
    refine gj_iload_n (pc' := 15) dX10_aloft_14 rfl rfl ?_
    refine gj_iconst (pc' := 16) dX10_aloft_15 rfl ?_
    refine gj_ldcw (z := 65536) (pc' := 19) dX10_aloft_16 rfl (gtb_at 1098 (by decide +kernel) rfl) ?_
    refine gr_X10_183 (pc' := 22) dX10_aloft_19 rfl (x_isWithin hb (by unfold inB; omega) (by unfold inB; omega)) rfl (by decide) rfl (Nat.le_of_ble_eq_true rfl) ?_
    first | refine gj_ifB_ne (pc' := 25) (tgt := 31) dX10_aloft_22 (by decide) rfl (fun c22 => ?_) (fun c22 => ?_) | refine gj_if_ne (pc' := 25) (tgt := 31) dX10_aloft_22 (by decide) rfl (by omega) (fun c22 => ?_) (fun c22 => ?_)
    · first | have g22 := of_decide_eq_true c22 | have g22 := of_decide_eq_false c22 | skip
      have hI := hQ.ci (by omega)
      obtain ⟨-, -, hT, hS, hA, hB, hN⟩ := id hI
      obtain ⟨n, rfl⟩ : ∃ n : Nat, a = (n : Int) := ⟨a.toNat, by omega⟩
      obtain ⟨m, rfl⟩ : ∃ m : Nat, b = (m : Int) := ⟨b.toNat, by omega⟩
      have htt : t = 6 ∨ t = 29 := ht
      have hfl := tFl_le hT (b := n) (by omega)
      have h22 := hT.2.2.1
      refine gj_aload_n (pc' := 32) dX10_aloft_31 rfl rfl ?_
      refine gf_X10_47 (pc' := 35) dX10_aloft_32 rfl (by first | rfl | assumption) rfl ?_
      refine gj_iload_n (pc' := 36) dX10_aloft_35 rfl rfl ?_
      refine gc_X10_330 (pc' := 39) dX10_aloft_36 rfl (s_begin) rfl (by first | rfl | assumption) (by decide) rfl (Nat.le_of_ble_eq_true rfl) (fun v9 h9 q9 => ?_)
      obtain ⟨rfl, rfl⟩ := q9
      show gJ _ _ _ _ _ _ _ [] _ _
      refine gj_aload_n (pc' := 40) dX10_aloft_39 rfl rfl ?_
      refine gj_aload_n (pc' := 41) dX10_aloft_40 rfl rfl ?_
      refine gf_X10_47 (pc' := 44) dX10_aloft_41 rfl (by first | rfl | assumption) rfl ?_
      refine gj_aload_n (pc' := 45) dX10_aloft_44 rfl rfl ?_
      refine gf_X10_54 (pc' := 48) dX10_aloft_45 rfl (by first | rfl | assumption) rfl ?_
      rw [show (gui h 141 0 (m : Int)).2.2 0 = t from hP]
      refine gf_X10_149 (pc' := 51) dX10_aloft_48 rfl (by first | rfl | assumption) rfl ?_
      refine gj_iload_n (pc' := 52) dX10_aloft_51 rfl rfl ?_
      refine gj_iald (pc' := 53) (by first | rfl | assumption) rfl (by omega) (by decide) dX10_aloft_52 rfl ?_
      rw [gui_n (by omega), (hB n (by omega)).2]
      refine gj_aload_n (pc' := 54) dX10_aloft_53 rfl rfl ?_
      refine gf_X10_54 (pc' := 57) dX10_aloft_54 rfl (by first | rfl | assumption) rfl ?_
      rw [show (gui h 141 0 (m : Int)).2.2 0 = t from hP]
      refine gf_X10_333 (pc' := 60) dX10_aloft_57 rfl (by first | rfl | assumption) rfl ?_
      rw [gui_n (by omega), hA.1 2 (by omega)]
      refine gc_X10_336 (pc' := 63) dX10_aloft_60 rfl (s_daysAloft (x := m) (by rw [gui_s, up1_s]) (by omega) (by omega) (by omega)) rfl (by first | rfl | assumption) (by decide) rfl (Nat.le_of_ble_eq_true rfl) (fun v9 h9 q9 => ?_)
      obtain ⟨rfl, d0, d1, d2⟩ := q9
      obtain ⟨hd, rfl⟩ : ∃ x, x = h9 := ⟨h9, rfl⟩
      show gJ _ _ _ _ _ _ _ (.int (zI _) :: _) _ _
      refine gc_X10_105 (pc' := 66) dX10_aloft_63 rfl (x_grant) rfl (by first | rfl | assumption) (by decide) rfl (Nat.le_of_ble_eq_true rfl) (fun v9 h9 q9 => ?_)
      obtain ⟨rfl, q9a, q9b⟩ := q9
      show gJ _ _ _ _ _ _ _ (.int (zI _) :: _) _ _
      refine gj_iret rfl dX10_aloft_66 ?_
      exact qX_i (by unfold aBiN; rw [if_pos (by omega), if_pos (by omega)]; simp only [Int.toNat_natCast]) (XS.tr ⟨d0, fun o _ _ _ _ _ o1 _ _ => (d1 o o1).trans (gui_n o1), fun k _ => congrFun ((d1 0 (by decide)).trans (gui_n (by decide))) k⟩ q9a) q9b
    · first | have g22 := of_decide_eq_true c22 | have g22 := of_decide_eq_false c22 | skip
      refine gj_aload_n (pc' := 26) dX10_aloft_25 rfl rfl ?_
      refine gj_iconst (pc' := 27) dX10_aloft_26 rfl ?_
      refine gc_X10_72 (pc' := 30) dX10_aloft_27 rfl (x_refuse) rfl (by first | rfl | assumption) (by decide) rfl (Nat.le_of_ble_eq_true rfl) (fun v9 h9 q9 => ?_)
      obtain ⟨rfl, q9a, q9b⟩ := q9
      show gJ _ _ _ _ _ _ _ (.int (zI (-1)) :: _) _ _
      refine gj_iret rfl dX10_aloft_30 ?_
      exact qX_i (by unfold aBiN; (try simp only [Int.toNat_natCast]); repeat' (first | (exfalso; omega) | split | rfl | simp_all)) q9a q9b
  · first | have g5 := of_decide_eq_true c5 | have g5 := of_decide_eq_false c5 | skip
    refine gj_aload_n (pc' := 9) dX10_aloft_8 rfl rfl ?_
    refine gj_iconst (pc' := 10) dX10_aloft_9 rfl ?_
    refine gc_X10_72 (pc' := 13) dX10_aloft_10 rfl (x_refuse) rfl (by first | rfl | assumption) (by decide) rfl (Nat.le_of_ble_eq_true rfl) (fun v9 h9 q9 => ?_)
    obtain ⟨rfl, q9a, q9b⟩ := q9
    show gJ _ _ _ _ _ _ _ (.int (zI (-1)) :: _) _ _
    refine gj_iret rfl dX10_aloft_13 ?_
    exact qX_i (by unfold aBiN; (try simp only [Int.toNat_natCast]); repeat' (first | (exfalso; omega) | split | rfl | simp_all)) q9a q9b
