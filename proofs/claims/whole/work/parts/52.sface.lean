/-! strays: the sill to look at; the face of the class -/
def LK (T : Nat → Nat) : Nat → Int × Int
  | 0 => (-2, -2)
  | n + 1 => if 0 ≤ (LK T n).1 ∧ (LK T n).2 ≤ (mxF T (n / 41) (n % 41) : Int) then LK T n else (100 * ((n / 41 : Nat) : Int) + ((n % 41 : Nat) : Int), (mxF T (n / 41) (n % 41) : Int))
theorem LK_s (T : Nat → Nat) (n : Nat) : LK T (n + 1) = if 0 ≤ (LK T n).1 ∧ (LK T n).2 ≤ (mxF T (n / 41) (n % 41) : Int) then LK T n else (100 * ((n / 41 : Nat) : Int) + ((n % 41 : Nat) : Int), (mxF T (n / 41) (n % 41) : Int)) := rfl
theorem LK_ok (T : Nat → Nat) : ∀ n, 1 ≤ n → (LK T n).2 ≤ (mxF T ((n - 1) / 41) ((n - 1) % 41) : Int) ∧ ∃ a b : Nat, b < 41 ∧ 41 * a + b < n ∧ (LK T n).1 = 100 * (a : Int) + (b : Int) ∧ (LK T n).2 = (mxF T a b : Int)
  | 0, h => absurd h (by omega)
  | n + 1, _ => by
    rw [LK_s, show n + 1 - 1 = n by omega]
    by_cases q : 0 ≤ (LK T n).1 ∧ (LK T n).2 ≤ (mxF T (n / 41) (n % 41) : Int)
    · rw [if_pos q]
      refine ⟨q.2, ?_⟩
      have hn : 1 ≤ n := by
        rcases Nat.lt_or_ge n 1 with z | z
        · obtain rfl : n = 0 := by omega
          have := q.1
          have e : (LK T 0).1 = -2 := rfl
          omega
        · exact z
      obtain ⟨-, a, b, b1, b2, b3, b4⟩ := LK_ok T n hn
      exact ⟨a, b, b1, by omega, b3, b4⟩
    · rw [if_neg q]
      exact ⟨Int.le_refl _, n / 41, n % 41, Nat.mod_lt _ (by omega), by omega, rfl, rfl⟩
def lkF (T : Nat → Nat) : Int × Int := if nR T = 0 then (-2, -2) else LK T (41 * T 3)
theorem mxF_same {T : Nat → Nat} {k d : Nat} (h : anyN (fun s => stT T s k == d + 1) (T 5) = false) : mxF T k (d + 1) = mxF T k d := by
  have h1 : ∀ c, stN T c k (d + 1) = stN T c k d := fun c => by
    unfold stN
    refine sN_congr (fun s hs => ?_)
    have hne : ¬ stT T s k = d + 1 := fun q => by
      have := (anyN_t (p := fun s => stT T s k == d + 1)).mpr ⟨s, hs, beq_iff_eq.mpr q⟩
      rw [h] at this
      cases this
    unfold stO
    have e : decide (stT T s k ≤ d + 1) = decide (stT T s k ≤ d) := by
      rw [Bool.eq_iff_iff, decide_eq_true_eq, decide_eq_true_eq]
      omega
    rw [e]
  have h2 : ∀ q, tlN T k (d + 1) q = tlN T k d q := fun q => by
    unfold tlN
    refine sN_congr (fun c _ => ?_)
    rw [h1]
  unfold mxF
  refine fN_cg (fun q m _ => ?_)
  show max m (tlN T k (d + 1) q) = max m (tlN T k d q)
  rw [h2]
theorem s_bestSpot {h : gH} {t : Nat} {T : Nat → Nat} (ht : isT t) (hT : TV T) (h3e : h.1 t 3 = (T 3 : Int)) (hI : StrI h t T) : gSp 4 yX7_bestSpot cX7_bestSpot 7 (some .int) [.ref (t + 10), .ref t] h (fun v h' => v = some (.int (zI ((lkF T).1))) ∧ h'.2 = h.2 ∧ (∀ o, o ≠ t + 22 → h'.1 o = h.1 o)) := by
  obtain ⟨t0, -⟩ := shT ht
  obtain ⟨s0, s1, s2, s3, s4, s5, s6, s7, s8, s9, s10⟩ := shS ht
  have htt : t = 6 ∨ t = 29 := ht
  have h3 := hT.2.2.2.1
  have h125 : nR T ≤ 125 := cnt_125 hT
  have hr : h.1 (t + 10) 9 = (nR T : Int) := hI.2.2.2.1
  have hLK := LK_ok T
  have hmx := mxF_le hT
  refine gSp_of (by decide +kernel) (Nat.le_of_ble_eq_true rfl) ?_
  show gJ RX7 cX7_bestSpot 7 (some .int) _ 0 [some (.ref (t + 10)), some (.ref t), none, none, none, none, none] [] _ _
  refine gj_bipush (pc' := 2) dX7_bestSpot_0 rfl (by decide) ?_
  refine gj_istore_n (pc' := 3) dX7_bestSpot_2 rfl (by decide) ?_
  refine gj_aload_n (pc' := 4) dX7_bestSpot_3 rfl rfl ?_
  refine gf_X7_50 (pc' := 7) dX7_bestSpot_4 rfl (by first | rfl | assumption) rfl ?_
  rw [hr]
  refine gj_istore_n (pc' := 8) dX7_bestSpot_7 rfl (by decide) ?_
  refine gj_iconst (pc' := 9) dX7_bestSpot_8 rfl ?_
  refine gj_istore (pc' := 11) dX7_bestSpot_9 rfl (by decide) ?_
  refine gJ_wk (gJ_fH2 (L := fun k x1 x2 => [some (.ref (t + 10)), some (.ref t), some (.int (zI x1)), some (.int (zI x2)), some (.int (zI (k : Int))), none, none]) (I := fun k x1 x2 hp => (k = 0 ∨ 0 < nR T) ∧ hp.2 = h.2 ∧ (∀ o, o ≠ t + 22 → hp.1 o = h.1 o) ∧ x1 = (LK T (41 * k)).1 ∧ ((k = 0 ∧ x2 = (nR T : Int)) ∨ (k ≠ 0 ∧ x2 = (LK T (41 * k)).2))) (T 3) (fun k x1 x2 hp hb_k iv_k ih_k => ?step_1) (0) (Nat.zero_le _) ?x10_1 ?x20_1 _ ?iv0_1) ?ll0_1
  case ll0_1 =>
    repeat' (first | exact True.intro | with_reducible exact rfl | refine And.intro ?_ ?_ | refine vI ?_ | refine vL ?_)
    all_goals first | rfl | omega
  case iv0_1 =>
    exact ⟨Or.inl rfl, rfl, fun _ _ => rfl, rfl, Or.inl ⟨rfl, rfl⟩⟩
  obtain ⟨i0, i1, i2, i3, i4⟩ := iv_k
  refine gj_iload (pc' := 13) dX7_bestSpot_11 rfl rfl ?_
  refine gj_aload_n (pc' := 14) dX7_bestSpot_13 rfl rfl ?_
  refine gf_X7_53 (pc' := 17) dX7_bestSpot_14 rfl (by first | rfl | assumption) rfl ?_
  rw [i2 t (by omega), h3e]
  refine gj_icmp_ge (pc' := 20) (tgt := 102) dX7_bestSpot_17 (by decide) rfl (by omega) (fun c17 => ?_) (fun c17 => ?_)
  · refine gj_iload_n (pc' := 103) dX7_bestSpot_102 rfl rfl ?_
    refine gj_iret rfl dX7_bestSpot_103 ?_
    refine ⟨?_, i1, i2⟩
    rw [i3]
    unfold lkF
    by_cases q : nR T = 0
    · rw [if_pos q, show k = 0 by omega]
      rfl
    · rw [if_neg q, show k = T 3 by omega]
  · refine gj_aload_n (pc' := 21) dX7_bestSpot_20 rfl rfl ?_
    refine gf_X7_50 (pc' := 24) dX7_bestSpot_21 rfl (by first | rfl | assumption) rfl ?_
    rw [i2 (t + 10) (by omega), hr]
    refine gj_if_le (pc' := 27) (tgt := 102) dX7_bestSpot_24 (by decide) rfl (by omega) (fun c24 => ?_) (fun c24 => ?_)
    · refine gj_iload_n (pc' := 103) dX7_bestSpot_102 rfl rfl ?_
      refine gj_iret rfl dX7_bestSpot_103 ?_
      refine ⟨?_, i1, i2⟩
      rw [i3]
      unfold lkF
      by_cases q : nR T = 0
      · rw [if_pos q, show k = 0 by omega]
        rfl
      · rw [if_neg q, show k = T 3 by omega]
    · refine gj_iconst (pc' := 28) dX7_bestSpot_27 rfl ?_
      refine gj_istore (pc' := 30) dX7_bestSpot_28 rfl (by decide) ?_
      refine gJ_wk (gJ_fH2 (L := fun d x1 x2 => [some (.ref (t + 10)), some (.ref t), some (.int (zI x1)), some (.int (zI x2)), some (.int (zI (k : Int))), some (.int (zI (d : Int))), none]) (I := fun d x1 x2 hp => k < T 3 ∧ 0 < nR T ∧ hp.2 = h.2 ∧ (∀ o, o ≠ t + 22 → hp.1 o = h.1 o) ∧ x1 = (LK T (41 * k + d)).1 ∧ ((41 * k + d = 0 ∧ x2 = (nR T : Int)) ∨ (41 * k + d ≠ 0 ∧ x2 = (LK T (41 * k + d)).2))) (41) (fun d x1 x2 hp hb_d iv_d ih_d => ?step_2) (0) (Nat.zero_le _) ?x10_2 ?x20_2 _ ?iv0_2) ?ll0_2
      case ll0_2 =>
        repeat' (first | exact True.intro | with_reducible exact rfl | refine And.intro ?_ ?_ | refine vI ?_ | refine vL ?_)
        all_goals first | rfl | omega
      case iv0_2 =>
        refine ⟨by omega, by omega, i1, i2, i3, ?_⟩
        rcases i4 with ⟨a, b⟩ | ⟨a, b⟩
        · exact Or.inl ⟨by omega, b⟩
        · exact Or.inr ⟨by omega, b⟩
      obtain ⟨j0, j00, j1, j2, j3, j4⟩ := iv_d
      have hI2 : StrI hp t T := hI.to hT (fun o o1 o2 => j2 o (by omega))
      have es := LK_s T (41 * k + d)
      have hmd := hmx k d
      have hp0 : 41 * k + d = 0 → LK T (41 * k + d) = (-2, -2) := fun q => by rw [q]; rfl
      have hp1 : 41 * k + d ≠ 0 → 0 ≤ (LK T (41 * k + d)).1 ∧ (LK T (41 * k + d)).1 ≤ 640 ∧ 0 ≤ (LK T (41 * k + d)).2 ∧ (LK T (41 * k + d)).2 ≤ 512 ∧ (LK T (41 * k + d)).2 ≤ (mxF T ((41 * k + d - 1) / 41) ((41 * k + d - 1) % 41) : Int) := fun q => by
        obtain ⟨e0, a, b, b1, b2, b3, b4⟩ := hLK (41 * k + d) (by omega)
        have := hmx a b
        refine ⟨?_, ?_, ?_, ?_, e0⟩ <;> omega
      have hx2 : -2 ≤ x1 ∧ x1 ≤ 640 ∧ 0 ≤ x2 ∧ x2 ≤ 512 := by
        by_cases q : 41 * k + d = 0
        · have := hp0 q
          rw [this] at j3
          simp only at j3
          omega
        · have := hp1 q
          omega
      have hsd : d < 41 → (41 * k + d) / 41 = k ∧ (41 * k + d) % 41 = d := fun q => by constructor <;> omega
      have hnx : 41 * k + (d + 1) = 41 * k + d + 1 := by omega
      refine gj_iload (pc' := 32) dX7_bestSpot_30 rfl rfl ?_
      refine gj_bipush (pc' := 34) dX7_bestSpot_32 rfl (by decide) ?_
      refine gj_icmp_gt (pc' := 37) (tgt := 96) dX7_bestSpot_34 (by decide) rfl (by omega) (fun c34 => ?_) (fun c34 => ?_)
      · refine gj_iinc (pc' := 99) dX7_bestSpot_96 rfl rfl (by decide) ?_
        refine gj_goto (pc' := 11) dX7_bestSpot_99 (by decide) ?_
        refine gJ_wk (ih_k ?x1_3 ?x2_3 _ (by omega) ?iv_3) ?ll_3
        case ll_3 =>
          repeat' (first | exact True.intro | with_reducible exact rfl | refine And.intro ?_ ?_ | refine vI ?_ | refine vL ?_)
          all_goals omega
        have e41 : 41 * (k + 1) = 41 * k + d := by omega
        rw [e41]
        refine ⟨Or.inr j00, j1, j2, j3, Or.inr ⟨by omega, ?_⟩⟩
        rcases j4 with ⟨a, b⟩ | ⟨a, b⟩
        · exfalso; omega
        · exact b
      · refine gj_iload (pc' := 39) dX7_bestSpot_37 rfl rfl ?_
        refine gj_if_le (pc' := 42) (tgt := 56) dX7_bestSpot_39 (by decide) rfl (by omega) (fun c39 => ?_) (fun c39 => ?_)
        · refine gj_aload_n (pc' := 57) dX7_bestSpot_56 rfl rfl ?_
          refine gj_iload (pc' := 59) dX7_bestSpot_57 rfl rfl ?_
          refine gj_iload (pc' := 61) dX7_bestSpot_59 rfl rfl ?_
          refine gc_X7_90 (pc' := 64) dX7_bestSpot_61 rfl (s_mostLeft ht hT hI2 (by omega) (by omega)) rfl (by first | rfl | assumption) (by decide) rfl (Nat.le_of_ble_eq_true rfl) (fun v9 h9 q9 => ?_)
          obtain ⟨rfl, m1, m2⟩ := q9
          obtain ⟨hd, rfl⟩ : ∃ x, x = h9 := ⟨h9, rfl⟩
          show gJ _ _ _ _ _ _ _ (.int (zI _) :: _) _ _
          refine gj_istore (pc' := 66) dX7_bestSpot_64 rfl (by decide) ?_
          refine gj_iload_n (pc' := 67) dX7_bestSpot_66 rfl rfl ?_
          refine gj_bipush (pc' := 69) dX7_bestSpot_67 rfl (by decide) ?_
          refine gj_icmp_eq (pc' := 72) (tgt := 78) dX7_bestSpot_69 (by decide) rfl (by omega) (fun c69 => ?_) (fun c69 => ?_)
          · refine gj_bipush (pc' := 80) dX7_bestSpot_78 rfl (by decide) ?_
            refine gj_iload (pc' := 82) dX7_bestSpot_80 rfl rfl ?_
            refine gj_imul (pc' := 83) dX7_bestSpot_82 rfl ?_
            refine gj_iload (pc' := 85) dX7_bestSpot_83 rfl rfl ?_
            refine gj_iadd (pc' := 86) dX7_bestSpot_85 rfl ?_
            refine gj_istore_n (pc' := 87) dX7_bestSpot_86 rfl (by decide) ?_
            refine gj_iload (pc' := 89) dX7_bestSpot_87 rfl rfl ?_
            refine gj_istore_n (pc' := 90) dX7_bestSpot_89 rfl (by decide) ?_
            refine gj_iinc (pc' := 93) dX7_bestSpot_90 rfl rfl (by decide) ?_
            refine gj_goto (pc' := 30) dX7_bestSpot_93 (by decide) ?_
            refine gJ_wk (ih_d ?x1_4 ?x2_4 _ (by omega) ?iv_4) ?ll_4
            case ll_4 =>
              repeat' (first | exact True.intro | with_reducible exact rfl | refine And.intro ?_ ?_ | refine vI ?_ | refine vL ?_)
              all_goals omega
            rw [(hsd (by omega)).1, (hsd (by omega)).2] at es
            rw [hnx]
            by_cases hc : 0 ≤ (LK T (41 * k + d)).1 ∧ (LK T (41 * k + d)).2 ≤ (mxF T k d : Int)
            · rw [if_pos hc] at es
              have hn0 : 41 * k + d ≠ 0 := fun q => by
                have e := hp0 q
                rw [e] at hc
                have := hc.1
                simp only at this
                omega
              have hx : x2 = (LK T (41 * k + d)).2 := by
                rcases j4 with ⟨a, b⟩ | ⟨a, b⟩
                · exact absurd a hn0
                · exact b
              rw [es]
              first
              | (exfalso; omega)
              | exact ⟨j0, j00, m1.trans j1, fun o ho => (m2 o ho).trans (j2 o ho), j3, Or.inr ⟨by omega, hx⟩⟩
              | exact ⟨j0, j00, j1, j2, j3, Or.inr ⟨by omega, hx⟩⟩
            · rw [if_neg hc] at es
              have hz : 41 * k + d ≠ 0 → x2 = (LK T (41 * k + d)).2 := fun q => by
                rcases j4 with ⟨a, b⟩ | ⟨a, b⟩
                · exact absurd a q
                · exact b
              have hz2 : 41 * k + d = 0 → x1 = -2 := fun q => by rw [j3, hp0 q]
              rw [es]
              first
              | (exfalso; omega)
              | exact ⟨j0, j00, m1.trans j1, fun o ho => (m2 o ho).trans (j2 o ho), rfl, Or.inr ⟨by omega, rfl⟩⟩
              | (exfalso
                 obtain ⟨d', rfl⟩ : ∃ d', d = d' + 1 := ⟨d - 1, by omega⟩
                 have hs := mxF_same (T := T) (k := k) (d := d') c50
                 have hq := hp1 (by omega)
                 rw [show (41 * k + (d' + 1) - 1) / 41 = k by omega, show (41 * k + (d' + 1) - 1) % 41 = d' by omega] at hq
                 exact hc ⟨hq.1, by rw [hs]; exact hq.2.2.2.2⟩)
          · refine gj_iload (pc' := 74) dX7_bestSpot_72 rfl rfl ?_
            refine gj_iload_n (pc' := 75) dX7_bestSpot_74 rfl rfl ?_
            refine gj_icmp_ge (pc' := 78) (tgt := 90) dX7_bestSpot_75 (by decide) rfl (by omega) (fun c75 => ?_) (fun c75 => ?_)
            · refine gj_iinc (pc' := 93) dX7_bestSpot_90 rfl rfl (by decide) ?_
              refine gj_goto (pc' := 30) dX7_bestSpot_93 (by decide) ?_
              refine gJ_wk (ih_d ?x1_5 ?x2_5 _ (by omega) ?iv_5) ?ll_5
              case ll_5 =>
                repeat' (first | exact True.intro | with_reducible exact rfl | refine And.intro ?_ ?_ | refine vI ?_ | refine vL ?_)
                all_goals omega
              rw [(hsd (by omega)).1, (hsd (by omega)).2] at es
              rw [hnx]
              by_cases hc : 0 ≤ (LK T (41 * k + d)).1 ∧ (LK T (41 * k + d)).2 ≤ (mxF T k d : Int)
              · rw [if_pos hc] at es
                have hn0 : 41 * k + d ≠ 0 := fun q => by
                  have e := hp0 q
                  rw [e] at hc
                  have := hc.1
                  simp only at this
                  omega
                have hx : x2 = (LK T (41 * k + d)).2 := by
                  rcases j4 with ⟨a, b⟩ | ⟨a, b⟩
                  · exact absurd a hn0
                  · exact b
                rw [es]
                first
                | (exfalso; omega)
                | exact ⟨j0, j00, m1.trans j1, fun o ho => (m2 o ho).trans (j2 o ho), j3, Or.inr ⟨by omega, hx⟩⟩
                | exact ⟨j0, j00, j1, j2, j3, Or.inr ⟨by omega, hx⟩⟩
              · rw [if_neg hc] at es
                have hz : 41 * k + d ≠ 0 → x2 = (LK T (41 * k + d)).2 := fun q => by
                  rcases j4 with ⟨a, b⟩ | ⟨a, b⟩
                  · exact absurd a q
                  · exact b
                have hz2 : 41 * k + d = 0 → x1 = -2 := fun q => by rw [j3, hp0 q]
                rw [es]
                first
                | (exfalso; omega)
                | exact ⟨j0, j00, m1.trans j1, fun o ho => (m2 o ho).trans (j2 o ho), rfl, Or.inr ⟨by omega, rfl⟩⟩
                | (exfalso
                   obtain ⟨d', rfl⟩ : ∃ d', d = d' + 1 := ⟨d - 1, by omega⟩
                   have hs := mxF_same (T := T) (k := k) (d := d') c50
                   have hq := hp1 (by omega)
                   rw [show (41 * k + (d' + 1) - 1) / 41 = k by omega, show (41 * k + (d' + 1) - 1) % 41 = d' by omega] at hq
                   exact hc ⟨hq.1, by rw [hs]; exact hq.2.2.2.2⟩)
            · refine gj_bipush (pc' := 80) dX7_bestSpot_78 rfl (by decide) ?_
              refine gj_iload (pc' := 82) dX7_bestSpot_80 rfl rfl ?_
              refine gj_imul (pc' := 83) dX7_bestSpot_82 rfl ?_
              refine gj_iload (pc' := 85) dX7_bestSpot_83 rfl rfl ?_
              refine gj_iadd (pc' := 86) dX7_bestSpot_85 rfl ?_
              refine gj_istore_n (pc' := 87) dX7_bestSpot_86 rfl (by decide) ?_
              refine gj_iload (pc' := 89) dX7_bestSpot_87 rfl rfl ?_
              refine gj_istore_n (pc' := 90) dX7_bestSpot_89 rfl (by decide) ?_
              refine gj_iinc (pc' := 93) dX7_bestSpot_90 rfl rfl (by decide) ?_
              refine gj_goto (pc' := 30) dX7_bestSpot_93 (by decide) ?_
              refine gJ_wk (ih_d ?x1_6 ?x2_6 _ (by omega) ?iv_6) ?ll_6
              case ll_6 =>
                repeat' (first | exact True.intro | with_reducible exact rfl | refine And.intro ?_ ?_ | refine vI ?_ | refine vL ?_)
                all_goals omega
              rw [(hsd (by omega)).1, (hsd (by omega)).2] at es
              rw [hnx]
              by_cases hc : 0 ≤ (LK T (41 * k + d)).1 ∧ (LK T (41 * k + d)).2 ≤ (mxF T k d : Int)
              · rw [if_pos hc] at es
                have hn0 : 41 * k + d ≠ 0 := fun q => by
                  have e := hp0 q
                  rw [e] at hc
                  have := hc.1
                  simp only at this
                  omega
                have hx : x2 = (LK T (41 * k + d)).2 := by
                  rcases j4 with ⟨a, b⟩ | ⟨a, b⟩
                  · exact absurd a hn0
                  · exact b
                rw [es]
                first
                | (exfalso; omega)
                | exact ⟨j0, j00, m1.trans j1, fun o ho => (m2 o ho).trans (j2 o ho), j3, Or.inr ⟨by omega, hx⟩⟩
                | exact ⟨j0, j00, j1, j2, j3, Or.inr ⟨by omega, hx⟩⟩
              · rw [if_neg hc] at es
                have hz : 41 * k + d ≠ 0 → x2 = (LK T (41 * k + d)).2 := fun q => by
                  rcases j4 with ⟨a, b⟩ | ⟨a, b⟩
                  · exact absurd a q
                  · exact b
                have hz2 : 41 * k + d = 0 → x1 = -2 := fun q => by rw [j3, hp0 q]
                rw [es]
                first
                | (exfalso; omega)
                | exact ⟨j0, j00, m1.trans j1, fun o ho => (m2 o ho).trans (j2 o ho), rfl, Or.inr ⟨by omega, rfl⟩⟩
                | (exfalso
                   obtain ⟨d', rfl⟩ : ∃ d', d = d' + 1 := ⟨d - 1, by omega⟩
                   have hs := mxF_same (T := T) (k := k) (d := d') c50
                   have hq := hp1 (by omega)
                   rw [show (41 * k + (d' + 1) - 1) / 41 = k by omega, show (41 * k + (d' + 1) - 1) % 41 = d' by omega] at hq
                   exact hc ⟨hq.1, by rw [hs]; exact hq.2.2.2.2⟩)
        · refine gj_aload_n (pc' := 43) dX7_bestSpot_42 rfl rfl ?_
          refine gj_iload (pc' := 45) dX7_bestSpot_43 rfl rfl ?_
          refine gj_iload (pc' := 47) dX7_bestSpot_45 rfl rfl ?_
          refine gr_X7_87 (pc' := 50) dX7_bestSpot_47 rfl (s_comesOn ht hT hI2 (by omega) (by omega)) rfl (by first | rfl | assumption) (by decide) rfl (Nat.le_of_ble_eq_true rfl) ?_
          first | refine gj_ifB_ne (pc' := 53) (tgt := 56) dX7_bestSpot_50 (by decide) rfl (fun c50 => ?_) (fun c50 => ?_) | refine gj_if_ne (pc' := 53) (tgt := 56) dX7_bestSpot_50 (by decide) rfl (by omega) (fun c50 => ?_) (fun c50 => ?_)
          · refine gj_aload_n (pc' := 57) dX7_bestSpot_56 rfl rfl ?_
            refine gj_iload (pc' := 59) dX7_bestSpot_57 rfl rfl ?_
            refine gj_iload (pc' := 61) dX7_bestSpot_59 rfl rfl ?_
            refine gc_X7_90 (pc' := 64) dX7_bestSpot_61 rfl (s_mostLeft ht hT hI2 (by omega) (by omega)) rfl (by first | rfl | assumption) (by decide) rfl (Nat.le_of_ble_eq_true rfl) (fun v9 h9 q9 => ?_)
            obtain ⟨rfl, m1, m2⟩ := q9
            obtain ⟨hd, rfl⟩ : ∃ x, x = h9 := ⟨h9, rfl⟩
            show gJ _ _ _ _ _ _ _ (.int (zI _) :: _) _ _
            refine gj_istore (pc' := 66) dX7_bestSpot_64 rfl (by decide) ?_
            refine gj_iload_n (pc' := 67) dX7_bestSpot_66 rfl rfl ?_
            refine gj_bipush (pc' := 69) dX7_bestSpot_67 rfl (by decide) ?_
            refine gj_icmp_eq (pc' := 72) (tgt := 78) dX7_bestSpot_69 (by decide) rfl (by omega) (fun c69 => ?_) (fun c69 => ?_)
            · refine gj_bipush (pc' := 80) dX7_bestSpot_78 rfl (by decide) ?_
              refine gj_iload (pc' := 82) dX7_bestSpot_80 rfl rfl ?_
              refine gj_imul (pc' := 83) dX7_bestSpot_82 rfl ?_
              refine gj_iload (pc' := 85) dX7_bestSpot_83 rfl rfl ?_
              refine gj_iadd (pc' := 86) dX7_bestSpot_85 rfl ?_
              refine gj_istore_n (pc' := 87) dX7_bestSpot_86 rfl (by decide) ?_
              refine gj_iload (pc' := 89) dX7_bestSpot_87 rfl rfl ?_
              refine gj_istore_n (pc' := 90) dX7_bestSpot_89 rfl (by decide) ?_
              refine gj_iinc (pc' := 93) dX7_bestSpot_90 rfl rfl (by decide) ?_
              refine gj_goto (pc' := 30) dX7_bestSpot_93 (by decide) ?_
              refine gJ_wk (ih_d ?x1_7 ?x2_7 _ (by omega) ?iv_7) ?ll_7
              case ll_7 =>
                repeat' (first | exact True.intro | with_reducible exact rfl | refine And.intro ?_ ?_ | refine vI ?_ | refine vL ?_)
                all_goals omega
              rw [(hsd (by omega)).1, (hsd (by omega)).2] at es
              rw [hnx]
              by_cases hc : 0 ≤ (LK T (41 * k + d)).1 ∧ (LK T (41 * k + d)).2 ≤ (mxF T k d : Int)
              · rw [if_pos hc] at es
                have hn0 : 41 * k + d ≠ 0 := fun q => by
                  have e := hp0 q
                  rw [e] at hc
                  have := hc.1
                  simp only at this
                  omega
                have hx : x2 = (LK T (41 * k + d)).2 := by
                  rcases j4 with ⟨a, b⟩ | ⟨a, b⟩
                  · exact absurd a hn0
                  · exact b
                rw [es]
                first
                | (exfalso; omega)
                | exact ⟨j0, j00, m1.trans j1, fun o ho => (m2 o ho).trans (j2 o ho), j3, Or.inr ⟨by omega, hx⟩⟩
                | exact ⟨j0, j00, j1, j2, j3, Or.inr ⟨by omega, hx⟩⟩
              · rw [if_neg hc] at es
                have hz : 41 * k + d ≠ 0 → x2 = (LK T (41 * k + d)).2 := fun q => by
                  rcases j4 with ⟨a, b⟩ | ⟨a, b⟩
                  · exact absurd a q
                  · exact b
                have hz2 : 41 * k + d = 0 → x1 = -2 := fun q => by rw [j3, hp0 q]
                rw [es]
                first
                | (exfalso; omega)
                | exact ⟨j0, j00, m1.trans j1, fun o ho => (m2 o ho).trans (j2 o ho), rfl, Or.inr ⟨by omega, rfl⟩⟩
                | (exfalso
                   obtain ⟨d', rfl⟩ : ∃ d', d = d' + 1 := ⟨d - 1, by omega⟩
                   have hs := mxF_same (T := T) (k := k) (d := d') c50
                   have hq := hp1 (by omega)
                   rw [show (41 * k + (d' + 1) - 1) / 41 = k by omega, show (41 * k + (d' + 1) - 1) % 41 = d' by omega] at hq
                   exact hc ⟨hq.1, by rw [hs]; exact hq.2.2.2.2⟩)
            · refine gj_iload (pc' := 74) dX7_bestSpot_72 rfl rfl ?_
              refine gj_iload_n (pc' := 75) dX7_bestSpot_74 rfl rfl ?_
              refine gj_icmp_ge (pc' := 78) (tgt := 90) dX7_bestSpot_75 (by decide) rfl (by omega) (fun c75 => ?_) (fun c75 => ?_)
              · refine gj_iinc (pc' := 93) dX7_bestSpot_90 rfl rfl (by decide) ?_
                refine gj_goto (pc' := 30) dX7_bestSpot_93 (by decide) ?_
                refine gJ_wk (ih_d ?x1_8 ?x2_8 _ (by omega) ?iv_8) ?ll_8
                case ll_8 =>
                  repeat' (first | exact True.intro | with_reducible exact rfl | refine And.intro ?_ ?_ | refine vI ?_ | refine vL ?_)
                  all_goals omega
                rw [(hsd (by omega)).1, (hsd (by omega)).2] at es
                rw [hnx]
                by_cases hc : 0 ≤ (LK T (41 * k + d)).1 ∧ (LK T (41 * k + d)).2 ≤ (mxF T k d : Int)
                · rw [if_pos hc] at es
                  have hn0 : 41 * k + d ≠ 0 := fun q => by
                    have e := hp0 q
                    rw [e] at hc
                    have := hc.1
                    simp only at this
                    omega
                  have hx : x2 = (LK T (41 * k + d)).2 := by
                    rcases j4 with ⟨a, b⟩ | ⟨a, b⟩
                    · exact absurd a hn0
                    · exact b
                  rw [es]
                  first
                  | (exfalso; omega)
                  | exact ⟨j0, j00, m1.trans j1, fun o ho => (m2 o ho).trans (j2 o ho), j3, Or.inr ⟨by omega, hx⟩⟩
                  | exact ⟨j0, j00, j1, j2, j3, Or.inr ⟨by omega, hx⟩⟩
                · rw [if_neg hc] at es
                  have hz : 41 * k + d ≠ 0 → x2 = (LK T (41 * k + d)).2 := fun q => by
                    rcases j4 with ⟨a, b⟩ | ⟨a, b⟩
                    · exact absurd a q
                    · exact b
                  have hz2 : 41 * k + d = 0 → x1 = -2 := fun q => by rw [j3, hp0 q]
                  rw [es]
                  first
                  | (exfalso; omega)
                  | exact ⟨j0, j00, m1.trans j1, fun o ho => (m2 o ho).trans (j2 o ho), rfl, Or.inr ⟨by omega, rfl⟩⟩
                  | (exfalso
                     obtain ⟨d', rfl⟩ : ∃ d', d = d' + 1 := ⟨d - 1, by omega⟩
                     have hs := mxF_same (T := T) (k := k) (d := d') c50
                     have hq := hp1 (by omega)
                     rw [show (41 * k + (d' + 1) - 1) / 41 = k by omega, show (41 * k + (d' + 1) - 1) % 41 = d' by omega] at hq
                     exact hc ⟨hq.1, by rw [hs]; exact hq.2.2.2.2⟩)
              · refine gj_bipush (pc' := 80) dX7_bestSpot_78 rfl (by decide) ?_
                refine gj_iload (pc' := 82) dX7_bestSpot_80 rfl rfl ?_
                refine gj_imul (pc' := 83) dX7_bestSpot_82 rfl ?_
                refine gj_iload (pc' := 85) dX7_bestSpot_83 rfl rfl ?_
                refine gj_iadd (pc' := 86) dX7_bestSpot_85 rfl ?_
                refine gj_istore_n (pc' := 87) dX7_bestSpot_86 rfl (by decide) ?_
                refine gj_iload (pc' := 89) dX7_bestSpot_87 rfl rfl ?_
                refine gj_istore_n (pc' := 90) dX7_bestSpot_89 rfl (by decide) ?_
                refine gj_iinc (pc' := 93) dX7_bestSpot_90 rfl rfl (by decide) ?_
                refine gj_goto (pc' := 30) dX7_bestSpot_93 (by decide) ?_
                refine gJ_wk (ih_d ?x1_9 ?x2_9 _ (by omega) ?iv_9) ?ll_9
                case ll_9 =>
                  repeat' (first | exact True.intro | with_reducible exact rfl | refine And.intro ?_ ?_ | refine vI ?_ | refine vL ?_)
                  all_goals omega
                rw [(hsd (by omega)).1, (hsd (by omega)).2] at es
                rw [hnx]
                by_cases hc : 0 ≤ (LK T (41 * k + d)).1 ∧ (LK T (41 * k + d)).2 ≤ (mxF T k d : Int)
                · rw [if_pos hc] at es
                  have hn0 : 41 * k + d ≠ 0 := fun q => by
                    have e := hp0 q
                    rw [e] at hc
                    have := hc.1
                    simp only at this
                    omega
                  have hx : x2 = (LK T (41 * k + d)).2 := by
                    rcases j4 with ⟨a, b⟩ | ⟨a, b⟩
                    · exact absurd a hn0
                    · exact b
                  rw [es]
                  first
                  | (exfalso; omega)
                  | exact ⟨j0, j00, m1.trans j1, fun o ho => (m2 o ho).trans (j2 o ho), j3, Or.inr ⟨by omega, hx⟩⟩
                  | exact ⟨j0, j00, j1, j2, j3, Or.inr ⟨by omega, hx⟩⟩
                · rw [if_neg hc] at es
                  have hz : 41 * k + d ≠ 0 → x2 = (LK T (41 * k + d)).2 := fun q => by
                    rcases j4 with ⟨a, b⟩ | ⟨a, b⟩
                    · exact absurd a q
                    · exact b
                  have hz2 : 41 * k + d = 0 → x1 = -2 := fun q => by rw [j3, hp0 q]
                  rw [es]
                  first
                  | (exfalso; omega)
                  | exact ⟨j0, j00, m1.trans j1, fun o ho => (m2 o ho).trans (j2 o ho), rfl, Or.inr ⟨by omega, rfl⟩⟩
                  | (exfalso
                     obtain ⟨d', rfl⟩ : ∃ d', d = d' + 1 := ⟨d - 1, by omega⟩
                     have hs := mxF_same (T := T) (k := k) (d := d') c50
                     have hq := hp1 (by omega)
                     rw [show (41 * k + (d' + 1) - 1) / 41 = k by omega, show (41 * k + (d' + 1) - 1) % 41 = d' by omega] at hq
                     exact hc ⟨hq.1, by rw [hs]; exact hq.2.2.2.2⟩)
          · refine gj_goto (pc' := 90) dX7_bestSpot_53 (by decide) ?_
            refine gj_iinc (pc' := 93) dX7_bestSpot_90 rfl rfl (by decide) ?_
            refine gj_goto (pc' := 30) dX7_bestSpot_93 (by decide) ?_
            refine gJ_wk (ih_d ?x1_10 ?x2_10 _ (by omega) ?iv_10) ?ll_10
            case ll_10 =>
              repeat' (first | exact True.intro | with_reducible exact rfl | refine And.intro ?_ ?_ | refine vI ?_ | refine vL ?_)
              all_goals omega
            rw [(hsd (by omega)).1, (hsd (by omega)).2] at es
            rw [hnx]
            by_cases hc : 0 ≤ (LK T (41 * k + d)).1 ∧ (LK T (41 * k + d)).2 ≤ (mxF T k d : Int)
            · rw [if_pos hc] at es
              have hn0 : 41 * k + d ≠ 0 := fun q => by
                have e := hp0 q
                rw [e] at hc
                have := hc.1
                simp only at this
                omega
              have hx : x2 = (LK T (41 * k + d)).2 := by
                rcases j4 with ⟨a, b⟩ | ⟨a, b⟩
                · exact absurd a hn0
                · exact b
              rw [es]
              first
              | (exfalso; omega)
              | exact ⟨j0, j00, m1.trans j1, fun o ho => (m2 o ho).trans (j2 o ho), j3, Or.inr ⟨by omega, hx⟩⟩
              | exact ⟨j0, j00, j1, j2, j3, Or.inr ⟨by omega, hx⟩⟩
            · rw [if_neg hc] at es
              have hz : 41 * k + d ≠ 0 → x2 = (LK T (41 * k + d)).2 := fun q => by
                rcases j4 with ⟨a, b⟩ | ⟨a, b⟩
                · exact absurd a q
                · exact b
              have hz2 : 41 * k + d = 0 → x1 = -2 := fun q => by rw [j3, hp0 q]
              rw [es]
              first
              | (exfalso; omega)
              | exact ⟨j0, j00, m1.trans j1, fun o ho => (m2 o ho).trans (j2 o ho), rfl, Or.inr ⟨by omega, rfl⟩⟩
              | (exfalso
                 obtain ⟨d', rfl⟩ : ∃ d', d = d' + 1 := ⟨d - 1, by omega⟩
                 have hs := mxF_same (T := T) (k := k) (d := d') c50
                 have hq := hp1 (by omega)
                 rw [show (41 * k + (d' + 1) - 1) / 41 = k by omega, show (41 * k + (d' + 1) - 1) % 41 = d' by omega] at hq
                 exact hc ⟨hq.1, by rw [hs]; exact hq.2.2.2.2⟩)
theorem s_bestLeaves {h : gH} {t : Nat} {T : Nat → Nat} (ht : isT t) (hT : TV T) (h3e : h.1 t 3 = (T 3 : Int)) (hI : StrI h t T) : gSp 5 yX7_bestSpotLeaves cX7_bestSpotLeaves 3 (some .int) [.ref (t + 10), .ref t] h (fun v h' => v = some (.int (zI ((lkF T).2))) ∧ h'.2 = h.2 ∧ (∀ o, o ≠ t + 22 → h'.1 o = h.1 o)) := by
  obtain ⟨s0, -⟩ := shS ht
  have htt : t = 6 ∨ t = 29 := ht
  have h3 := hT.2.2.2.1
  have hlk : (nR T = 0 ∧ lkF T = (-2, -2)) ∨ ∃ a b : Nat, b < 41 ∧ a < T 3 ∧ (lkF T).1 = 100 * (a : Int) + (b : Int) ∧ (lkF T).2 = (mxF T a b : Int) := by
    unfold lkF
    by_cases q : nR T = 0
    · exact Or.inl ⟨q, if_pos q⟩
    · rw [if_neg q]
      obtain ⟨-, a, b, b1, b2, b3, b4⟩ := LK_ok T (41 * T 3) (by omega)
      exact Or.inr ⟨a, b, b1, by omega, b3, b4⟩
  refine gSp_of (by decide +kernel) (Nat.le_of_ble_eq_true rfl) ?_
  show gJ RX7 cX7_bestSpotLeaves 3 (some .int) _ 0 [some (.ref (t + 10)), some (.ref t), none] [] _ _
  refine gj_aload_n (pc' := 1) dX7_bestSpotLeaves_0 rfl rfl ?_
  refine gj_aload_n (pc' := 2) dX7_bestSpotLeaves_1 rfl rfl ?_
  refine gc_X7_93 (pc' := 5) dX7_bestSpotLeaves_2 rfl (s_bestSpot ht hT h3e hI) rfl (by first | rfl | assumption) (by decide) rfl (Nat.le_of_ble_eq_true rfl) (fun v9 h9 q9 => ?_)
  obtain ⟨rfl, m1, m2⟩ := q9
  obtain ⟨hd, rfl⟩ : ∃ x, x = h9 := ⟨h9, rfl⟩
  have hI2 : StrI hd t T := hI.to hT (fun o o1 o2 => m2 o (by omega))
  have hin : -2 ≤ (lkF T).1 ∧ (lkF T).1 ≤ 640 := by
    rcases hlk with ⟨_, e⟩ | ⟨a, b, b1, b2, b3, _⟩
    · rw [e]
      exact ⟨Int.le_refl _, by decide⟩
    · omega
  show gJ _ _ _ _ _ _ _ (.int (zI _) :: _) _ _
  refine gj_istore_n (pc' := 6) dX7_bestSpotLeaves_5 rfl (by decide) ?_
  refine gj_iload_n (pc' := 7) dX7_bestSpotLeaves_6 rfl rfl ?_
  refine gj_if_ge (pc' := 10) (tgt := 15) dX7_bestSpotLeaves_7 (by decide) rfl (by omega) (fun c7 => ?_) (fun c7 => ?_)
  · obtain ⟨a, b, b1, b2, b3, b4⟩ : ∃ a b : Nat, b < 41 ∧ a < T 3 ∧ (lkF T).1 = 100 * (a : Int) + (b : Int) ∧ (lkF T).2 = (mxF T a b : Int) := by
      rcases hlk with ⟨_, e⟩ | q
      · exfalso
        rw [e] at c7
        simp only at c7
        omega
      · exact q
    rw [b3]
    refine gj_aload_n (pc' := 16) dX7_bestSpotLeaves_15 rfl rfl ?_
    refine gj_iload_n (pc' := 17) dX7_bestSpotLeaves_16 rfl rfl ?_
    refine gj_bipush (pc' := 19) dX7_bestSpotLeaves_17 rfl (by decide) ?_
    refine gj_idiv (pc' := 20) dX7_bestSpotLeaves_19 rfl (by omega) (by omega) ?_
    rw [show (100 * (a : Int) + (b : Int)) / 100 = (a : Int) by omega]
    refine gj_iload_n (pc' := 21) dX7_bestSpotLeaves_20 rfl rfl ?_
    refine gj_bipush (pc' := 23) dX7_bestSpotLeaves_21 rfl (by decide) ?_
    refine gj_irem (pc' := 24) dX7_bestSpotLeaves_23 rfl (by omega) (by omega) ?_
    rw [show (100 * (a : Int) + (b : Int)) % 100 = (b : Int) by omega]
    refine gc_X7_90 (pc' := 27) dX7_bestSpotLeaves_24 rfl (s_mostLeft ht hT hI2 b2 (by omega)) rfl (by first | rfl | assumption) (by decide) rfl (Nat.le_of_ble_eq_true rfl) (fun v9 h9 q9 => ?_)
    obtain ⟨rfl, n1, n2⟩ := q9
    show gJ _ _ _ _ _ _ _ (.int (zI _) :: _) _ _
    refine gj_iret rfl dX7_bestSpotLeaves_27 ?_
    by_cases q : 0 ≤ (lkF T).1
    · first
      | (exfalso; omega)
      | exact ⟨by rw [b4], n1.trans m1, fun o ho => (n2 o ho).trans (m2 o ho)⟩
    · rcases hlk with ⟨_, e⟩ | ⟨a, b, b1, b2, b3, _⟩
      · first
        | (exfalso; omega)
        | exact ⟨by rw [e], m1, m2⟩
      · exfalso; omega
  · refine gj_bipush (pc' := 12) dX7_bestSpotLeaves_10 rfl (by decide) ?_
    refine gj_goto (pc' := 27) dX7_bestSpotLeaves_12 (by decide) ?_
    refine gj_iret rfl dX7_bestSpotLeaves_27 ?_
    by_cases q : 0 ≤ (lkF T).1
    · first
      | (exfalso; omega)
      | exact ⟨by rw [b4], n1.trans m1, fun o ho => (n2 o ho).trans (m2 o ho)⟩
    · rcases hlk with ⟨_, e⟩ | ⟨a, b, b1, b2, b3, _⟩
      · first
        | (exfalso; omega)
        | exact ⟨by rw [e], m1, m2⟩
      · exfalso; omega
theorem s_tooFew {h : gH} {t : Nat} {T : Nat → Nat} (ht : isT t) (hT : TV T) (hI : StrI h t T) : gSp 1 yX7_firstTooFew cX7_firstTooFew 2 (some .int) [.ref (t + 10)] h (gR (.int (zI (fstN (fun k => decide (T (62 + 3 * k) < knN T k)) (T 6)))) h) := by
  obtain ⟨s0, s1, s2, s3, s4, s5, s6, s7, s8, s9, s10⟩ := shS ht
  have h6 : T 6 ≤ 5 := hT.2.2.2.2.2.2.1
  refine gSp_of (by decide +kernel) (Nat.le_of_ble_eq_true rfl) ?_
  show gJ RX7 cX7_firstTooFew 2 (some .int) _ 0 [some (.ref (t + 10)), none] [] _ _
  refine gj_iconst (pc' := 1) dX7_firstTooFew_0 rfl ?_
  refine gj_istore_n (pc' := 2) dX7_firstTooFew_1 rfl (by decide) ?_
  refine gJ_wk (gJ_fH0 (L := fun k  => [some (.ref (t + 10)), some (.int (zI (k : Int)))]) (I := fun k  hp => hp = h ∧ fstN (fun k => decide (T (62 + 3 * k) < knN T k)) k = -2) (T 6) (fun k  hp hb_k iv_k ih_k => ?step_1) (0) (Nat.zero_le _)  _ ?iv0_1) ?ll0_1
  case ll0_1 =>
    repeat' (first | exact True.intro | with_reducible exact rfl | refine And.intro ?_ ?_ | refine vI ?_ | refine vL ?_)
    all_goals first | rfl | omega
  case iv0_1 =>
    exact ⟨rfl, rfl⟩
  obtain ⟨rfl, i2⟩ := iv_k
  have es := fstN_s (fun k => decide (T (62 + 3 * k) < knN T k)) k
  have hkn := knN_le hT k
  have h11 := fun q : k < T 6 => hT.2.2.2.2.2.2.2.2.2.2 k q
  refine gj_iload_n (pc' := 3) dX7_firstTooFew_2 rfl rfl ?_
  refine gj_aload_n (pc' := 4) dX7_firstTooFew_3 rfl rfl ?_
  refine gf_X7_47 (pc' := 7) dX7_firstTooFew_4 rfl (by first | rfl | assumption) rfl ?_
  rw [hI.1.2.1]
  refine gj_icmp_ge (pc' := 10) (tgt := 33) dX7_firstTooFew_7 (by decide) rfl (by omega) (fun c7 => ?_) (fun c7 => ?_)
  · refine gj_bipush (pc' := 35) dX7_firstTooFew_33 rfl (by decide) ?_
    refine gj_iret rfl dX7_firstTooFew_35 ?_
    rw [show T 6 = k by omega]
    exact gR_i (by rw [i2])
  · refine gj_aload_n (pc' := 11) dX7_firstTooFew_10 rfl rfl ?_
    refine gf_X7_31 (pc' := 14) dX7_firstTooFew_11 rfl (by first | rfl | assumption) rfl ?_
    refine gj_iload_n (pc' := 15) dX7_firstTooFew_14 rfl rfl ?_
    refine gj_iald (pc' := 16) (by first | rfl | assumption) rfl (by omega) (by decide) dX7_firstTooFew_15 rfl ?_
    rw [(hI.1.2.2.2 k (by omega)).2.2]
    refine gj_aload_n (pc' := 17) dX7_firstTooFew_16 rfl rfl ?_
    refine gf_X7_34 (pc' := 20) dX7_firstTooFew_17 rfl (by first | rfl | assumption) rfl ?_
    refine gj_iload_n (pc' := 21) dX7_firstTooFew_20 rfl rfl ?_
    refine gj_iald (pc' := 22) (by first | rfl | assumption) rfl (by omega) (by decide) dX7_firstTooFew_21 rfl ?_
    rw [hI.2.2.1 k (by omega)]
    refine gj_icmp_ge (pc' := 25) (tgt := 27) dX7_firstTooFew_22 (by decide) rfl (by have := h11 (by omega); omega) (fun c22 => ?_) (fun c22 => ?_)
    · refine gj_iinc (pc' := 30) dX7_firstTooFew_27 rfl rfl (by decide) ?_
      refine gj_goto (pc' := 2) dX7_firstTooFew_30 (by decide) ?_
      refine gJ_wk (ih_k  _ (by omega) ?iv_2) ?ll_2
      case ll_2 =>
        repeat' (first | exact True.intro | with_reducible exact rfl | refine And.intro ?_ ?_ | refine vI ?_ | refine vL ?_)
        all_goals omega
      refine ⟨rfl, es.trans ?_⟩
      rw [if_neg]
      · exact i2
      · intro z
        have z2 := z.2
        rw [decide_eq_true_eq] at z2
        omega
    · refine gj_iload_n (pc' := 26) dX7_firstTooFew_25 rfl rfl ?_
      refine gj_iret rfl dX7_firstTooFew_26 ?_
      exact gR_i (by rw [fstN_hit (p := fun k => decide (T (62 + 3 * k) < knN T k)) i2 (decide_eq_true (by omega)) (by omega)])
