/-! the model's reader: what must stand, names, houses, numbers -/
theorem m_must {h : gH} {B : Nat → Nat} {e i : Nat} {T : Nat → Nat} {x : Nat × Nat} (hM : MM h B e T x) (hi : i < 19) : gSp 7 yX11_must cX11_must 2 none [.ref 142, .ref (1000 + i)] h (fun v h' => v = none ∧ mlN h h' ∧ ∃ x', MM h' B e T x' ∧ ∀ R k, chR x R (bd (ptW B e i x.2) k) → chR x' R (k 0 x'.2)) := by
  have hfl := hM.fl
  have hw : ptW B e i x.2 = if tIs B e x.2 i = true then (0, 0, tEn B e x.2) else (1, tS B e x.2, 0) := rfl
  have htk : gSp 6 yX11_takesWord cX11_takesWord 2 (some .boolean) [.ref 142, .ref (1000 + i)] h (fun v h' => v = some (.int (zI (bI (decide (x.1 = 0) && tIs B e x.2 i)))) ∧ mlN h h' ∧ ((decide (x.1 = 0) && tIs B e x.2 i) = false → h' = h) ∧ ((decide (x.1 = 0) && tIs B e x.2 i) = true → ML h' B e (tEn B e x.2) T)) := by
    refine gSp_of (by decide +kernel) (Nat.le_of_ble_eq_true rfl) ?_
    show gJ RX11 cX11_takesWord 2 (some .boolean) _ 0 [some (.ref 142), some (.ref (1000 + i))] [] _ _
    refine gj_aload_n (pc' := 1) dX11_takesWord_0 rfl rfl ?_
    refine gj_aload_n (pc' := 2) dX11_takesWord_1 rfl rfl ?_
    refine gr_X11_108 (pc' := 5) dX11_takesWord_2 rfl (m_isWord hM hi) rfl (by first | rfl | assumption) (by decide) rfl (Nat.le_of_ble_eq_true rfl) ?_
    first | refine gj_ifB_ne (pc' := 8) (tgt := 10) dX11_takesWord_5 (by decide) rfl (fun c5 => ?_) (fun c5 => ?_) | refine gj_if_ne (pc' := 8) (tgt := 10) dX11_takesWord_5 (by decide) rfl (by omega) (fun c5 => ?_) (fun c5 => ?_)
    · have hL := hM.1 (by simp only [Bool.and_eq_true, decide_eq_true_eq] at c5; exact c5.1)
      refine gj_aload_n (pc' := 11) dX11_takesWord_10 rfl rfl ?_
      refine gc_X11_112 (pc' := 14) dX11_takesWord_11 rfl (m_nextL hL) rfl (by first | rfl | assumption) (by decide) rfl (Nat.le_of_ble_eq_true rfl) (fun v9 h9 q9 => ?_)
      obtain ⟨rfl, n1, n2⟩ := q9
      show gJ _ _ _ _ _ _ _ [] _ _
      refine gj_iconst (pc' := 15) dX11_takesWord_14 rfl ?_
      refine gj_zret rfl (by first | rfl | exact gnZ _ | assumption) dX11_takesWord_15 ?_
      exact ⟨by rw [c5]; rfl, n1, (fun z => by rw [c5] at z; cases z), fun _ => n2⟩
    · refine gj_iconst (pc' := 9) dX11_takesWord_8 rfl ?_
      refine gj_zret rfl (by first | rfl | exact gnZ _ | assumption) dX11_takesWord_9 ?_
      exact ⟨by rw [c5]; rfl, mlN.rf h, fun _ => rfl, fun z => by rw [c5] at z; cases z⟩
  refine gSp_of (by decide +kernel) (Nat.le_of_ble_eq_true rfl) ?_
  show gJ RX11 cX11_must 2 none _ 0 [some (.ref 142), some (.ref (1000 + i))] [] _ _
  refine gj_aload_n (pc' := 1) dX11_must_0 rfl rfl ?_
  refine gf_X11_91 (pc' := 4) dX11_must_1 rfl (by first | rfl | assumption) rfl ?_
  rw [hfl]
  first | refine gj_ifB_ne (pc' := 7) (tgt := 24) dX11_must_4 (by decide) rfl (fun c4 => ?_) (fun c4 => ?_) | refine gj_if_ne (pc' := 7) (tgt := 24) dX11_must_4 (by decide) rfl (by omega) (fun c4 => ?_) (fun c4 => ?_)
  · first | have g4 := of_decide_eq_true c4 | have g4 := of_decide_eq_false c4 | skip
    refine gj_vret rfl dX11_must_24 ?_
    first
    | (have y1 := w1
       have hz : tIs B e x.2 i = false := by
         rw [decide_eq_true g0, Bool.true_and] at c12
         exact c12
       rw [if_neg (by rw [hz]; decide)] at hw
       exact ⟨rfl, w1, (1, tS B e x.2), w2, fun R k a => chR_1 g0 (by decide) hw a⟩)
    | (have y1 := k1
       have g0 : x.1 = 0 := Decidable.of_not_not g4
       have c13 := c12
       simp only [Bool.and_eq_true, decide_eq_true_eq] at c13
       rw [if_pos c13.2] at hw
       exact ⟨rfl, k1, (0, tEn B e x.2), MM.at (k3 c12), fun R k a => chR_0 (p := 0) g0 hw a⟩)
    | exact ⟨rfl, mlN.rf h, x, hM, fun R k a => chR_x g4 a⟩
  · first | have g4 := of_decide_eq_true c4 | have g4 := of_decide_eq_false c4 | skip
    refine gj_aload_n (pc' := 8) dX11_must_7 rfl rfl ?_
    refine gj_aload_n (pc' := 9) dX11_must_8 rfl rfl ?_
    refine gc_X11_115 (pc' := 12) dX11_must_9 rfl (htk) rfl (by first | rfl | assumption) (by decide) rfl (Nat.le_of_ble_eq_true rfl) (fun v9 h9 q9 => ?_)
    obtain ⟨rfl, k1, k2, k3⟩ := q9
    obtain ⟨ha, rfl⟩ : ∃ x, x = h9 := ⟨h9, rfl⟩
    show gJ _ _ _ _ _ _ _ [.int (zI (bI _))] _ _
    first | refine gj_ifB_ne (pc' := 15) (tgt := 24) dX11_must_12 (by decide) rfl (fun c12 => ?_) (fun c12 => ?_) | refine gj_if_ne (pc' := 15) (tgt := 24) dX11_must_12 (by decide) rfl (by omega) (fun c12 => ?_) (fun c12 => ?_)
    · first | have g12 := of_decide_eq_true c12 | have g12 := of_decide_eq_false c12 | skip
      refine gj_vret rfl dX11_must_24 ?_
      first
      | (have y1 := w1
         have hz : tIs B e x.2 i = false := by
           rw [decide_eq_true g0, Bool.true_and] at c12
           exact c12
         rw [if_neg (by rw [hz]; decide)] at hw
         exact ⟨rfl, w1, (1, tS B e x.2), w2, fun R k a => chR_1 g0 (by decide) hw a⟩)
      | (have y1 := k1
         have g0 : x.1 = 0 := Decidable.of_not_not g4
         have c13 := c12
         simp only [Bool.and_eq_true, decide_eq_true_eq] at c13
         rw [if_pos c13.2] at hw
         exact ⟨rfl, k1, (0, tEn B e x.2), MM.at (k3 c12), fun R k a => chR_0 (p := 0) g0 hw a⟩)
      | exact ⟨rfl, mlN.rf h, x, hM, fun R k a => chR_x g4 a⟩
    · first | have g12 := of_decide_eq_true c12 | have g12 := of_decide_eq_false c12 | skip
      have g0 : x.1 = 0 := Decidable.of_not_not g4
      rw [k2 c12]
      have hL := hM.1 g0
      refine gj_aload_n (pc' := 16) dX11_must_15 rfl rfl ?_
      refine gj_iconst (pc' := 17) dX11_must_16 rfl ?_
      refine gj_aload_n (pc' := 18) dX11_must_17 rfl rfl ?_
      refine gf_X11_72 (pc' := 21) dX11_must_18 rfl (by first | rfl | assumption) rfl ?_
      rw [hL.2.1.2.2.1]
      refine gc_X11_118 (pc' := 24) dX11_must_21 rfl (m_wrong hL (k := 1) (by decide)) rfl (by first | rfl | assumption) (by decide) rfl (Nat.le_of_ble_eq_true rfl) (fun v9 h9 q9 => ?_)
      obtain ⟨rfl, w1, w2⟩ := q9
      show gJ _ _ _ _ _ _ _ [] _ _
      refine gj_vret rfl dX11_must_24 ?_
      first
      | (have y1 := w1
         have hz : tIs B e x.2 i = false := by
           rw [decide_eq_true g0, Bool.true_and] at c12
           exact c12
         rw [if_neg (by rw [hz]; decide)] at hw
         exact ⟨rfl, w1, (1, tS B e x.2), w2, fun R k a => chR_1 g0 (by decide) hw a⟩)
      | (have y1 := k1
         have g0 : x.1 = 0 := Decidable.of_not_not g4
         have c13 := c12
         simp only [Bool.and_eq_true, decide_eq_true_eq] at c13
         rw [if_pos c13.2] at hw
         exact ⟨rfl, k1, (0, tEn B e x.2), MM.at (k3 c12), fun R k a => chR_0 (p := 0) g0 hw a⟩)
      | exact ⟨rfl, mlN.rf h, x, hM, fun R k a => chR_x g4 a⟩
/-- where the reader stands behind a name that must be one -/
def nmx (B : Nat → Nat) (e p : Nat) : Nat × Nat := if tNm B e p = true then (0, p) else (1, tS B e p)
theorem nmx_t {B : Nat → Nat} {e p : Nat} (h : tNm B e p = true) : nmx B e p = (0, p) := if_pos h
theorem nmx_f {B : Nat → Nat} {e p : Nat} (h : tNm B e p = false) : nmx B e p = (1, tS B e p) := if_neg (by rw [h]; decide)
theorem nmx_0 {B : Nat → Nat} {e p : Nat} (g : (nmx B e p).1 = 0) : tNm B e p = true := by
  cases q : tNm B e p with
  | true => rfl
  | false =>
    rw [nmx_f q] at g
    exact absurd (show (1 : Nat) = 0 from g) (by decide)
theorem nmx_1 {B : Nat → Nat} {e p : Nat} (g : (nmx B e p).1 ≠ 0) : tNm B e p = false := by
  cases q : tNm B e p with
  | false => rfl
  | true =>
    rw [nmx_t q] at g
    exact absurd rfl g
theorem m_mustName {h : gH} {B : Nat → Nat} {e p : Nat} {T : Nat → Nat} (hL : ML h B e p T) : gSp 6 yX11_mustName cX11_mustName 1 none [.ref 142] h (fun v h' => v = none ∧ mlN h h' ∧ MM h' B e T (nmx B e p)) := by
  have hT := hL.2.1
  have hsr := tSr_le B e p
  have htk := tkM_2 hsr
  have h6 := hT.2.2.2.2.1
  have hM : MM h B e T (0, p) := MM.at hL
  have hnm : tNm B e p = (decide (tSr B e p = 1) && !tIs B e p 0 && !tIs B e p 1 && !tIs B e p 2 && !tIs B e p 3 && !tIs B e p 4) := rfl
  refine gSp_of (by decide +kernel) (Nat.le_of_ble_eq_true rfl) ?_
  show gJ RX11 cX11_mustName 1 none _ 0 [some (.ref 142)] [] _ _
  refine gj_aload_n (pc' := 1) dX11_mustName_0 rfl rfl ?_
  refine gf_X11_81 (pc' := 4) dX11_mustName_1 rfl (by first | rfl | assumption) rfl ?_
  rw [h6]
  refine gj_iconst (pc' := 5) dX11_mustName_4 rfl ?_
  refine gj_icmp_ne (pc' := 8) (tgt := 53) dX11_mustName_5 (by decide) rfl (by omega) (fun c5 => ?_) (fun c5 => ?_)
  · have hz : tNm B e p = false := by
      first
      | exact tNm_f4 c50
      | exact tNm_f3 c41
      | exact tNm_f2 c32
      | exact tNm_f1 c23
      | exact tNm_f0 c14
      | (have hz1 : ¬ tSr B e p = 1 := fun z => by
           have := htk.1.mpr z
           omega
         rw [hnm, decide_eq_false hz1]
         rfl)
    refine gj_aload_n (pc' := 54) dX11_mustName_53 rfl rfl ?_
    refine gj_iconst (pc' := 55) dX11_mustName_54 rfl ?_
    refine gj_aload_n (pc' := 56) dX11_mustName_55 rfl rfl ?_
    refine gf_X11_72 (pc' := 59) dX11_mustName_56 rfl (by first | rfl | assumption) rfl ?_
    rw [hT.2.2.1]
    refine gc_X11_118 (pc' := 62) dX11_mustName_59 rfl (m_wrong hL (k := 1) (by decide)) rfl (by first | rfl | assumption) (by decide) rfl (Nat.le_of_ble_eq_true rfl) (fun v9 h9 q9 => ?_)
    obtain ⟨rfl, w1, w2⟩ := q9
    show gJ _ _ _ _ _ _ _ [] _ _
    refine gj_vret rfl dX11_mustName_62 ?_
    first
    | (have y1 := w1
       exact ⟨rfl, w1, by rw [nmx_f hz]; exact w2⟩)
    | (have hs1 : tSr B e p = 1 := htk.1.mp (by omega)
       have hz : tNm B e p = true := by rw [hnm, decide_eq_true hs1, c14, c23, c32, c41, c50]; rfl
       exact ⟨rfl, mlN.rf h, by rw [nmx_t hz]; exact hM⟩)
  · refine gj_aload_n (pc' := 9) dX11_mustName_8 rfl rfl ?_
    refine gj_ldcS (pc' := 11) dX11_mustName_9 rfl (gstr_X11_122) ?_
    refine gr_X11_108 (pc' := 14) dX11_mustName_11 rfl (m_isWord (i := 0) hM (by decide)) rfl (by first | rfl | assumption) (by decide) rfl (Nat.le_of_ble_eq_true rfl) ?_
    change gJ _ _ _ _ _ _ _ [.int (zI (bI (tIs B e p 0)))] _ _
    first | refine gj_ifB_ne (pc' := 17) (tgt := 53) dX11_mustName_14 (by decide) rfl (fun c14 => ?_) (fun c14 => ?_) | refine gj_if_ne (pc' := 17) (tgt := 53) dX11_mustName_14 (by decide) rfl (by omega) (fun c14 => ?_) (fun c14 => ?_)
    · have hz : tNm B e p = false := by
        first
        | exact tNm_f4 c50
        | exact tNm_f3 c41
        | exact tNm_f2 c32
        | exact tNm_f1 c23
        | exact tNm_f0 c14
        | (have hz1 : ¬ tSr B e p = 1 := fun z => by
             have := htk.1.mpr z
             omega
           rw [hnm, decide_eq_false hz1]
           rfl)
      refine gj_aload_n (pc' := 54) dX11_mustName_53 rfl rfl ?_
      refine gj_iconst (pc' := 55) dX11_mustName_54 rfl ?_
      refine gj_aload_n (pc' := 56) dX11_mustName_55 rfl rfl ?_
      refine gf_X11_72 (pc' := 59) dX11_mustName_56 rfl (by first | rfl | assumption) rfl ?_
      rw [hT.2.2.1]
      refine gc_X11_118 (pc' := 62) dX11_mustName_59 rfl (m_wrong hL (k := 1) (by decide)) rfl (by first | rfl | assumption) (by decide) rfl (Nat.le_of_ble_eq_true rfl) (fun v9 h9 q9 => ?_)
      obtain ⟨rfl, w1, w2⟩ := q9
      show gJ _ _ _ _ _ _ _ [] _ _
      refine gj_vret rfl dX11_mustName_62 ?_
      first
      | (have y1 := w1
         exact ⟨rfl, w1, by rw [nmx_f hz]; exact w2⟩)
      | (have hs1 : tSr B e p = 1 := htk.1.mp (by omega)
         have hz : tNm B e p = true := by rw [hnm, decide_eq_true hs1, c14, c23, c32, c41, c50]; rfl
         exact ⟨rfl, mlN.rf h, by rw [nmx_t hz]; exact hM⟩)
    · refine gj_aload_n (pc' := 18) dX11_mustName_17 rfl rfl ?_
      refine gj_ldcS (pc' := 20) dX11_mustName_18 rfl (gstr_X11_124) ?_
      refine gr_X11_108 (pc' := 23) dX11_mustName_20 rfl (m_isWord (i := 1) hM (by decide)) rfl (by first | rfl | assumption) (by decide) rfl (Nat.le_of_ble_eq_true rfl) ?_
      change gJ _ _ _ _ _ _ _ [.int (zI (bI (tIs B e p 1)))] _ _
      first | refine gj_ifB_ne (pc' := 26) (tgt := 53) dX11_mustName_23 (by decide) rfl (fun c23 => ?_) (fun c23 => ?_) | refine gj_if_ne (pc' := 26) (tgt := 53) dX11_mustName_23 (by decide) rfl (by omega) (fun c23 => ?_) (fun c23 => ?_)
      · have hz : tNm B e p = false := by
          first
          | exact tNm_f4 c50
          | exact tNm_f3 c41
          | exact tNm_f2 c32
          | exact tNm_f1 c23
          | exact tNm_f0 c14
          | (have hz1 : ¬ tSr B e p = 1 := fun z => by
               have := htk.1.mpr z
               omega
             rw [hnm, decide_eq_false hz1]
             rfl)
        refine gj_aload_n (pc' := 54) dX11_mustName_53 rfl rfl ?_
        refine gj_iconst (pc' := 55) dX11_mustName_54 rfl ?_
        refine gj_aload_n (pc' := 56) dX11_mustName_55 rfl rfl ?_
        refine gf_X11_72 (pc' := 59) dX11_mustName_56 rfl (by first | rfl | assumption) rfl ?_
        rw [hT.2.2.1]
        refine gc_X11_118 (pc' := 62) dX11_mustName_59 rfl (m_wrong hL (k := 1) (by decide)) rfl (by first | rfl | assumption) (by decide) rfl (Nat.le_of_ble_eq_true rfl) (fun v9 h9 q9 => ?_)
        obtain ⟨rfl, w1, w2⟩ := q9
        show gJ _ _ _ _ _ _ _ [] _ _
        refine gj_vret rfl dX11_mustName_62 ?_
        first
        | (have y1 := w1
           exact ⟨rfl, w1, by rw [nmx_f hz]; exact w2⟩)
        | (have hs1 : tSr B e p = 1 := htk.1.mp (by omega)
           have hz : tNm B e p = true := by rw [hnm, decide_eq_true hs1, c14, c23, c32, c41, c50]; rfl
           exact ⟨rfl, mlN.rf h, by rw [nmx_t hz]; exact hM⟩)
      · refine gj_aload_n (pc' := 27) dX11_mustName_26 rfl rfl ?_
        refine gj_ldcS (pc' := 29) dX11_mustName_27 rfl (gstr_X11_126) ?_
        refine gr_X11_108 (pc' := 32) dX11_mustName_29 rfl (m_isWord (i := 2) hM (by decide)) rfl (by first | rfl | assumption) (by decide) rfl (Nat.le_of_ble_eq_true rfl) ?_
        change gJ _ _ _ _ _ _ _ [.int (zI (bI (tIs B e p 2)))] _ _
        first | refine gj_ifB_ne (pc' := 35) (tgt := 53) dX11_mustName_32 (by decide) rfl (fun c32 => ?_) (fun c32 => ?_) | refine gj_if_ne (pc' := 35) (tgt := 53) dX11_mustName_32 (by decide) rfl (by omega) (fun c32 => ?_) (fun c32 => ?_)
        · have hz : tNm B e p = false := by
            first
            | exact tNm_f4 c50
            | exact tNm_f3 c41
            | exact tNm_f2 c32
            | exact tNm_f1 c23
            | exact tNm_f0 c14
            | (have hz1 : ¬ tSr B e p = 1 := fun z => by
                 have := htk.1.mpr z
                 omega
               rw [hnm, decide_eq_false hz1]
               rfl)
          refine gj_aload_n (pc' := 54) dX11_mustName_53 rfl rfl ?_
          refine gj_iconst (pc' := 55) dX11_mustName_54 rfl ?_
          refine gj_aload_n (pc' := 56) dX11_mustName_55 rfl rfl ?_
          refine gf_X11_72 (pc' := 59) dX11_mustName_56 rfl (by first | rfl | assumption) rfl ?_
          rw [hT.2.2.1]
          refine gc_X11_118 (pc' := 62) dX11_mustName_59 rfl (m_wrong hL (k := 1) (by decide)) rfl (by first | rfl | assumption) (by decide) rfl (Nat.le_of_ble_eq_true rfl) (fun v9 h9 q9 => ?_)
          obtain ⟨rfl, w1, w2⟩ := q9
          show gJ _ _ _ _ _ _ _ [] _ _
          refine gj_vret rfl dX11_mustName_62 ?_
          first
          | (have y1 := w1
             exact ⟨rfl, w1, by rw [nmx_f hz]; exact w2⟩)
          | (have hs1 : tSr B e p = 1 := htk.1.mp (by omega)
             have hz : tNm B e p = true := by rw [hnm, decide_eq_true hs1, c14, c23, c32, c41, c50]; rfl
             exact ⟨rfl, mlN.rf h, by rw [nmx_t hz]; exact hM⟩)
        · refine gj_aload_n (pc' := 36) dX11_mustName_35 rfl rfl ?_
          refine gj_ldcS (pc' := 38) dX11_mustName_36 rfl (gstr_X11_128) ?_
          refine gr_X11_108 (pc' := 41) dX11_mustName_38 rfl (m_isWord (i := 3) hM (by decide)) rfl (by first | rfl | assumption) (by decide) rfl (Nat.le_of_ble_eq_true rfl) ?_
          change gJ _ _ _ _ _ _ _ [.int (zI (bI (tIs B e p 3)))] _ _
          first | refine gj_ifB_ne (pc' := 44) (tgt := 53) dX11_mustName_41 (by decide) rfl (fun c41 => ?_) (fun c41 => ?_) | refine gj_if_ne (pc' := 44) (tgt := 53) dX11_mustName_41 (by decide) rfl (by omega) (fun c41 => ?_) (fun c41 => ?_)
          · have hz : tNm B e p = false := by
              first
              | exact tNm_f4 c50
              | exact tNm_f3 c41
              | exact tNm_f2 c32
              | exact tNm_f1 c23
              | exact tNm_f0 c14
              | (have hz1 : ¬ tSr B e p = 1 := fun z => by
                   have := htk.1.mpr z
                   omega
                 rw [hnm, decide_eq_false hz1]
                 rfl)
            refine gj_aload_n (pc' := 54) dX11_mustName_53 rfl rfl ?_
            refine gj_iconst (pc' := 55) dX11_mustName_54 rfl ?_
            refine gj_aload_n (pc' := 56) dX11_mustName_55 rfl rfl ?_
            refine gf_X11_72 (pc' := 59) dX11_mustName_56 rfl (by first | rfl | assumption) rfl ?_
            rw [hT.2.2.1]
            refine gc_X11_118 (pc' := 62) dX11_mustName_59 rfl (m_wrong hL (k := 1) (by decide)) rfl (by first | rfl | assumption) (by decide) rfl (Nat.le_of_ble_eq_true rfl) (fun v9 h9 q9 => ?_)
            obtain ⟨rfl, w1, w2⟩ := q9
            show gJ _ _ _ _ _ _ _ [] _ _
            refine gj_vret rfl dX11_mustName_62 ?_
            first
            | (have y1 := w1
               exact ⟨rfl, w1, by rw [nmx_f hz]; exact w2⟩)
            | (have hs1 : tSr B e p = 1 := htk.1.mp (by omega)
               have hz : tNm B e p = true := by rw [hnm, decide_eq_true hs1, c14, c23, c32, c41, c50]; rfl
               exact ⟨rfl, mlN.rf h, by rw [nmx_t hz]; exact hM⟩)
          · refine gj_aload_n (pc' := 45) dX11_mustName_44 rfl rfl ?_
            refine gj_ldcS (pc' := 47) dX11_mustName_45 rfl (gstr_X11_130) ?_
            refine gr_X11_108 (pc' := 50) dX11_mustName_47 rfl (m_isWord (i := 4) hM (by decide)) rfl (by first | rfl | assumption) (by decide) rfl (Nat.le_of_ble_eq_true rfl) ?_
            change gJ _ _ _ _ _ _ _ [.int (zI (bI (tIs B e p 4)))] _ _
            first | refine gj_ifB_eq (pc' := 53) (tgt := 62) dX11_mustName_50 (by decide) rfl (fun c50 => ?_) (fun c50 => ?_) | refine gj_if_eq (pc' := 53) (tgt := 62) dX11_mustName_50 (by decide) rfl (by omega) (fun c50 => ?_) (fun c50 => ?_)
            · refine gj_vret rfl dX11_mustName_62 ?_
              first
              | (have y1 := w1
                 exact ⟨rfl, w1, by rw [nmx_f hz]; exact w2⟩)
              | (have hs1 : tSr B e p = 1 := htk.1.mp (by omega)
                 have hz : tNm B e p = true := by rw [hnm, decide_eq_true hs1, c14, c23, c32, c41, c50]; rfl
                 exact ⟨rfl, mlN.rf h, by rw [nmx_t hz]; exact hM⟩)
            · have hz : tNm B e p = false := by
                first
                | exact tNm_f4 c50
                | exact tNm_f3 c41
                | exact tNm_f2 c32
                | exact tNm_f1 c23
                | exact tNm_f0 c14
                | (have hz1 : ¬ tSr B e p = 1 := fun z => by
                     have := htk.1.mpr z
                     omega
                   rw [hnm, decide_eq_false hz1]
                   rfl)
              refine gj_aload_n (pc' := 54) dX11_mustName_53 rfl rfl ?_
              refine gj_iconst (pc' := 55) dX11_mustName_54 rfl ?_
              refine gj_aload_n (pc' := 56) dX11_mustName_55 rfl rfl ?_
              refine gf_X11_72 (pc' := 59) dX11_mustName_56 rfl (by first | rfl | assumption) rfl ?_
              rw [hT.2.2.1]
              refine gc_X11_118 (pc' := 62) dX11_mustName_59 rfl (m_wrong hL (k := 1) (by decide)) rfl (by first | rfl | assumption) (by decide) rfl (Nat.le_of_ble_eq_true rfl) (fun v9 h9 q9 => ?_)
              obtain ⟨rfl, w1, w2⟩ := q9
              show gJ _ _ _ _ _ _ _ [] _ _
              refine gj_vret rfl dX11_mustName_62 ?_
              first
              | (have y1 := w1
                 exact ⟨rfl, w1, by rw [nmx_f hz]; exact w2⟩)
              | (have hs1 : tSr B e p = 1 := htk.1.mp (by omega)
                 have hz : tNm B e p = true := by rw [hnm, decide_eq_true hs1, c14, c23, c32, c41, c50]; rfl
                 exact ⟨rfl, mlN.rf h, by rw [nmx_t hz]; exact hM⟩)
