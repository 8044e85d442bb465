/-! the model's reader: the lines of the loft, of a house, of a stray -/
theorem MM.F {h : gH} {B : Nat → Nat} {e : Nat} {T : Nat → Nat} {x : Nat × Nat} (a : MM h B e T x) (g : x.1 = 0) {k : Nat} (hk : k < 219) : h.1 146 k = (T k : Int) := (a.1 g).2.2 k hk
theorem ML.cg {h : gH} {B : Nat → Nat} {e p : Nat} {T T' : Nat → Nat} (a : ML h B e p T) (q : ∀ k, T' k = T k) : ML h B e p T' := ⟨a.1, a.2.1, fun k hk => by rw [q k]; exact a.2.2 k hk⟩
def lnL1 (B : Nat → Nat) (e : Nat) (T : Nat → Nat) (q : Nat) : Nat × Nat × (Nat → Nat) := bd (ptN B e 5 1 50 q) (fun w p1 => bd (ptN B e 6 0 100 p1) (fun k p2 => bd (ptN B e 7 0 100 p2) (fun s p3 => (0, p3, uT (uT (uT T 0 w) 1 k) 2 s))))
def lnH1 (B : Nat → Nat) (e : Nat) (T : Nat → Nat) (q : Nat) : Nat × Nat × (Nat → Nat) := bd (ptM B e T q) (fun _ p1 => bd (ptN B e 8 0 99 p1) (fun a p2 => bd (ptN B e 9 0 300 p2) (fun c p3 => (0, p3, uT (uT (uT (tkN B e T (T 3) q) (7 + 2 * T 3) a) (8 + 2 * T 3) c) 3 (T 3 + 1)))))
def lnS1 (B : Nat → Nat) (e : Nat) (T : Nat → Nat) (q : Nat) : Nat × Nat × (Nat → Nat) := bd (ptM B e T q) (fun _ p1 => bd (ptW B e 14 p1) (fun _ p2 => bd (ptH B e (tkN B e T (13 + T 5) q) (-1) p2) (fun a p3 => bd (ptN B e 16 0 30 p3) (fun d p4 => (0, p4, uT (uT (uT (tkN B e T (13 + T 5) q) (54 + 2 * T 5) a) (55 + 2 * T 5) d) 5 (T 5 + 1))))))
theorem lnL1_e (B : Nat → Nat) (e : Nat) (T : Nat → Nat) (p : Nat) : lnL B e T p = lnL1 B e T (tEn B e p) := rfl
theorem lnH1_e (B : Nat → Nat) (e : Nat) (T : Nat → Nat) (p : Nat) : lnH B e T p = lnH1 B e T (tEn B e p) := rfl
theorem lnS1_e (B : Nat → Nat) (e : Nat) (T : Nat → Nat) (p : Nat) : lnS B e T p = lnS1 B e T (tEn B e p) := rfl
theorem m_loftLine {h : gH} {B : Nat → Nat} {e p : Nat} {T : Nat → Nat} (hL : ML h B e p T) (h0 : T 0 ≤ 50) : gSp 9 yX11_loftLine cX11_loftLine 2 none [.ref 142] h (fun v h' => v = none ∧ mlE h h' ∧ MG h' B e (if T 0 ≠ 0 then (3, tS B e p, fun _ => 0) else lnL1 B e T (tEn B e p))) := by
  have hF := hL.2.2
  obtain ⟨R, hR⟩ : ∃ R, R = (if T 0 ≠ 0 then (3, tS B e p, fun _ => 0) else lnL1 B e T (tEn B e p)) := ⟨_, rfl⟩
  rw [← hR]
  refine gSp_of (by decide +kernel) (Nat.le_of_ble_eq_true rfl) ?_
  show gJ RX11 cX11_loftLine 2 none _ 0 [some (.ref 142), none] [] _ _
  refine gj_aload_n (pc' := 1) dX11_loftLine_0 rfl rfl ?_
  refine gf_X11_23 (pc' := 4) dX11_loftLine_1 rfl (by first | rfl | assumption) rfl ?_
  refine gj_iconst (pc' := 5) dX11_loftLine_4 rfl ?_
  refine gj_iald (pc' := 6) (j := 0) (by first | rfl | assumption) (by omega) (by omega) (by decide) dX11_loftLine_5 rfl ?_
  rw [hF 0 (by decide)]
  refine gj_if_le (pc' := 9) (tgt := 18) dX11_loftLine_6 (by decide) rfl (by omega) (fun c6 => ?_) (fun c6 => ?_)
  · first | have g6 := of_decide_eq_true c6 | have g6 := of_decide_eq_false c6 | skip
    first
    | (have hfl2 := (w2.2 (show (3 : Nat) ≠ 0 by decide)).1)
    | (have hfl2 := hL.1)
    refine gj_aload_n (pc' := 19) dX11_loftLine_18 rfl rfl ?_
    refine gf_X11_91 (pc' := 22) dX11_loftLine_19 rfl (by first | rfl | assumption) rfl ?_
    rw [hfl2]
    first | refine gj_ifB_eq (pc' := 25) (tgt := 26) dX11_loftLine_22 (by decide) rfl (fun c22 => ?_) (fun c22 => ?_) | refine gj_if_eq (pc' := 25) (tgt := 26) dX11_loftLine_22 (by decide) rfl (by omega) (fun c22 => ?_) (fun c22 => ?_)
    · first | have g22 := of_decide_eq_true c22 | have g22 := of_decide_eq_false c22 | skip
      rw [if_neg (by omega)] at hR
      refine gj_aload_n (pc' := 27) dX11_loftLine_26 rfl rfl ?_
      refine gc_X11_112 (pc' := 30) dX11_loftLine_27 rfl (m_nextL hL) rfl (by first | rfl | assumption) (by decide) rfl (Nat.le_of_ble_eq_true rfl) (fun v9 h9 q9 => ?_)
      obtain ⟨rfl, n1, n2⟩ := q9
      obtain ⟨ha, rfl⟩ : ∃ x, x = h9 := ⟨h9, rfl⟩
      have hM0 : MM ha B e T (0, tEn B e p) := MM.at n2
      have c0 : chR (0, tEn B e p) R (lnL1 B e T (tEn B e p)) := ⟨fun _ => hR, fun z => absurd rfl z⟩
      show gJ _ _ _ _ _ _ _ [] _ _
      refine gj_aload_n (pc' := 31) dX11_loftLine_30 rfl rfl ?_
      refine gj_ldcS (pc' := 33) dX11_loftLine_31 rfl (gstr_X11_194) ?_
      refine gj_iconst (pc' := 34) dX11_loftLine_33 rfl ?_
      refine gj_bipush (pc' := 36) dX11_loftLine_34 rfl (by decide) ?_
      refine gc_X11_196 (pc' := 39) dX11_loftLine_36 rfl (m_after (i := 5) (lo := 1) (hi := 50) hM0 (by decide) (by decide)) rfl (by first | rfl | assumption) (by decide) rfl (Nat.le_of_ble_eq_true rfl) (fun v9 h9 q9 => ?_)
      obtain ⟨v1, x1, rfl, k1, hM1, ch1⟩ := q9
      obtain ⟨hb, rfl⟩ : ∃ x, x = h9 := ⟨h9, rfl⟩
      have c1 := ch1 R _ c0
      show gJ _ _ _ _ _ _ _ (.int (zI (v1 : Int)) :: _) _ _
      refine gj_istore_n (pc' := 40) dX11_loftLine_39 rfl (by decide) ?_
      refine gj_aload_n (pc' := 41) dX11_loftLine_40 rfl rfl ?_
      refine gf_X11_23 (pc' := 44) dX11_loftLine_41 rfl (by first | rfl | assumption) rfl ?_
      refine gj_iconst (pc' := 45) dX11_loftLine_44 rfl ?_
      refine gj_aload_n (pc' := 46) dX11_loftLine_45 rfl rfl ?_
      refine gj_ldcS (pc' := 48) dX11_loftLine_46 rfl (gstr_X11_200) ?_
      refine gj_iconst (pc' := 49) dX11_loftLine_48 rfl ?_
      refine gj_bipush (pc' := 51) dX11_loftLine_49 rfl (by decide) ?_
      refine gc_X11_196 (pc' := 54) dX11_loftLine_51 rfl (m_after (i := 6) (lo := 0) (hi := 100) hM1 (by decide) (by decide)) rfl (by first | rfl | assumption) (by decide) rfl (Nat.le_of_ble_eq_true rfl) (fun v9 h9 q9 => ?_)
      obtain ⟨v2, x2, rfl, k2, hM2, ch2⟩ := q9
      obtain ⟨hc, rfl⟩ : ∃ x, x = h9 := ⟨h9, rfl⟩
      have c2 := ch2 R _ c1
      show gJ _ _ _ _ _ _ _ (.int (zI (v2 : Int)) :: _) _ _
      refine gj_iast (pc' := 55) (j := 1) (by first | rfl | assumption) (by omega) (by omega) (by decide) dX11_loftLine_54 rfl ?_
      refine gj_aload_n (pc' := 56) dX11_loftLine_55 rfl rfl ?_
      refine gf_X11_23 (pc' := 59) dX11_loftLine_56 rfl (by first | rfl | assumption) rfl ?_
      refine gj_iconst (pc' := 60) dX11_loftLine_59 rfl ?_
      refine gj_aload_n (pc' := 61) dX11_loftLine_60 rfl rfl ?_
      refine gj_ldcS (pc' := 63) dX11_loftLine_61 rfl (gstr_X11_202) ?_
      refine gj_iconst (pc' := 64) dX11_loftLine_63 rfl ?_
      refine gj_bipush (pc' := 66) dX11_loftLine_64 rfl (by decide) ?_
      refine gc_X11_196 (pc' := 69) dX11_loftLine_66 rfl (m_after (i := 7) (lo := 0) (hi := 100) (hM2.put (k := 1) (v := v2)) (by decide) (by decide)) rfl (by first | rfl | assumption) (by decide) rfl (Nat.le_of_ble_eq_true rfl) (fun v9 h9 q9 => ?_)
      obtain ⟨v3, x3, rfl, k3, hM3, ch3⟩ := q9
      obtain ⟨hd, rfl⟩ : ∃ x, x = h9 := ⟨h9, rfl⟩
      have c3 := ch3 R _ c2
      have hM4 := hM3.put (k := 2) (v := v3)
      have hE : mlE h (gui hd 146 2 (v3 : Int)) := n1.e.tr (k1.e.tr (k2.e.tr (mlE.put.tr (k3.e.tr mlE.put))))
      show gJ _ _ _ _ _ _ _ (.int (zI (v3 : Int)) :: _) _ _
      refine gj_iast (pc' := 70) (j := 2) (by first | rfl | assumption) (by omega) (by omega) (by decide) dX11_loftLine_69 rfl ?_
      refine gj_aload_n (pc' := 71) dX11_loftLine_70 rfl rfl ?_
      refine gf_X11_91 (pc' := 74) dX11_loftLine_71 rfl (by first | rfl | assumption) rfl ?_
      rw [hM4.fl]
      first | refine gj_ifB_ne (pc' := 77) (tgt := 84) dX11_loftLine_74 (by decide) rfl (fun c74 => ?_) (fun c74 => ?_) | refine gj_if_ne (pc' := 77) (tgt := 84) dX11_loftLine_74 (by decide) rfl (by omega) (fun c74 => ?_) (fun c74 => ?_)
      · first | have g74 := of_decide_eq_true c74 | have g74 := of_decide_eq_false c74 | skip
        refine gj_vret rfl dX11_loftLine_84 ?_
        first
        | exact ⟨rfl, hE, MG_x g74 hM4 c3⟩
        | (have g0 : x3.1 = 0 := Decidable.of_not_not g74
           refine ⟨rfl, hE.tr mlE.put, ?_⟩
           rw [c3.1 g0]
           refine ⟨fun _ => ((hM4.put (k := 0) (v := v1)).1 g0).cg (fun k => ?_), fun z => absurd rfl z⟩
           show uT (uT (uT T 0 v1) 1 v2) 2 v3 k = uT (uT (uT T 1 v2) 2 v3) 0 v1 k
           unfold uT
           (repeat' split) <;> first | rfl | (exfalso; omega))
      · first | have g74 := of_decide_eq_true c74 | have g74 := of_decide_eq_false c74 | skip
        refine gj_aload_n (pc' := 78) dX11_loftLine_77 rfl rfl ?_
        refine gf_X11_23 (pc' := 81) dX11_loftLine_78 rfl (by first | rfl | assumption) rfl ?_
        refine gj_iconst (pc' := 82) dX11_loftLine_81 rfl ?_
        refine gj_iload_n (pc' := 83) dX11_loftLine_82 rfl rfl ?_
        refine gj_iast (pc' := 84) (j := 0) (by first | rfl | assumption) (by omega) (by omega) (by decide) dX11_loftLine_83 rfl ?_
        refine gj_vret rfl dX11_loftLine_84 ?_
        first
        | exact ⟨rfl, hE, MG_x g74 hM4 c3⟩
        | (have g0 : x3.1 = 0 := Decidable.of_not_not g74
           refine ⟨rfl, hE.tr mlE.put, ?_⟩
           rw [c3.1 g0]
           refine ⟨fun _ => ((hM4.put (k := 0) (v := v1)).1 g0).cg (fun k => ?_), fun z => absurd rfl z⟩
           show uT (uT (uT T 0 v1) 1 v2) 2 v3 k = uT (uT (uT T 1 v2) 2 v3) 0 v1 k
           unfold uT
           (repeat' split) <;> first | rfl | (exfalso; omega))
    · exfalso; first | omega | (have q := of_decide_eq_true c22; omega) | (have q := of_decide_eq_false c22; omega)
  · first | have g6 := of_decide_eq_true c6 | have g6 := of_decide_eq_false c6 | skip
    refine gj_aload_n (pc' := 10) dX11_loftLine_9 rfl rfl ?_
    refine gj_iconst (pc' := 11) dX11_loftLine_10 rfl ?_
    refine gj_aload_n (pc' := 12) dX11_loftLine_11 rfl rfl ?_
    refine gf_X11_72 (pc' := 15) dX11_loftLine_12 rfl (by first | rfl | assumption) rfl ?_
    rw [hL.2.1.2.2.1]
    refine gc_X11_118 (pc' := 18) dX11_loftLine_15 rfl (m_wrong hL (k := 3) (by decide)) rfl (by first | rfl | assumption) (by decide) rfl (Nat.le_of_ble_eq_true rfl) (fun v9 h9 q9 => ?_)
    obtain ⟨rfl, w1, w2⟩ := q9
    show gJ _ _ _ _ _ _ _ [] _ _
    first
    | (have hfl2 := (w2.2 (show (3 : Nat) ≠ 0 by decide)).1)
    | (have hfl2 := hL.1)
    refine gj_aload_n (pc' := 19) dX11_loftLine_18 rfl rfl ?_
    refine gf_X11_91 (pc' := 22) dX11_loftLine_19 rfl (by first | rfl | assumption) rfl ?_
    rw [hfl2]
    first | refine gj_ifB_eq (pc' := 25) (tgt := 26) dX11_loftLine_22 (by decide) rfl (fun c22 => ?_) (fun c22 => ?_) | refine gj_if_eq (pc' := 25) (tgt := 26) dX11_loftLine_22 (by decide) rfl (by omega) (fun c22 => ?_) (fun c22 => ?_)
    · exfalso; first | omega | (have q := of_decide_eq_true c22; omega) | (have q := of_decide_eq_false c22; omega)
    · first | have g22 := of_decide_eq_true c22 | have g22 := of_decide_eq_false c22 | skip
      refine gj_vret rfl dX11_loftLine_25 ?_
      rw [if_pos (by omega)] at hR
      rw [hR]
      exact ⟨rfl, w1.e, fun z => absurd (show (3 : Nat) = 0 from z) (by decide), fun _ => w2.2 (show (3 : Nat) ≠ 0 by decide)⟩
theorem m_houseLine {h : gH} {B : Nat → Nat} {e : Nat} {T : Nat → Nat} {x : Nat × Nat} {R : Nat × Nat × (Nat → Nat)} (hM : MM h B e T x) (hx : x.1 = 0 → NU T ∧ T 3 < 6 ∧ T (75 + T 3) = 0) (c0 : chR x R (lnH1 B e T x.2)) : gSp 9 yX11_houseLine cX11_houseLine 2 none [.ref 142] h (fun v h' => v = none ∧ mlE h h' ∧ MG h' B e R) := by
  have hfl := hM.fl
  refine gSp_of (by decide +kernel) (Nat.le_of_ble_eq_true rfl) ?_
  show gJ RX11 cX11_houseLine 2 none _ 0 [some (.ref 142), none] [] _ _
  refine gj_aload_n (pc' := 1) dX11_houseLine_0 rfl rfl ?_
  refine gf_X11_91 (pc' := 4) dX11_houseLine_1 rfl (by first | rfl | assumption) rfl ?_
  rw [hfl]
  first | refine gj_ifB_eq (pc' := 7) (tgt := 8) dX11_houseLine_4 (by decide) rfl (fun c4 => ?_) (fun c4 => ?_) | refine gj_if_eq (pc' := 7) (tgt := 8) dX11_houseLine_4 (by decide) rfl (by omega) (fun c4 => ?_) (fun c4 => ?_)
  · first | have g4 := of_decide_eq_true c4 | have g4 := of_decide_eq_false c4 | skip
    have g0 : x.1 = 0 := Decidable.of_not_not g4
    have hF := (hM.1 g0).2.2
    obtain ⟨hU, h3, hn0⟩ := hx g0
    refine gj_bipush (pc' := 10) dX11_houseLine_8 rfl (by decide) ?_
    refine gj_iconst (pc' := 11) dX11_houseLine_10 rfl ?_
    refine gj_aload_n (pc' := 12) dX11_houseLine_11 rfl rfl ?_
    refine gf_X11_23 (pc' := 15) dX11_houseLine_12 rfl (by first | rfl | assumption) rfl ?_
    refine gj_iconst (pc' := 16) dX11_houseLine_15 rfl ?_
    refine gj_iald (pc' := 17) (j := 3) (by first | rfl | assumption) (by omega) (by omega) (by decide) dX11_houseLine_16 rfl ?_
    rw [hF 3 (by decide)]
    refine gj_imul (pc' := 18) dX11_houseLine_17 rfl ?_
    refine gj_iadd (pc' := 19) dX11_houseLine_18 rfl ?_
    refine gj_istore_n (pc' := 20) dX11_houseLine_19 rfl (by decide) ?_
    refine gj_aload_n (pc' := 21) dX11_houseLine_20 rfl rfl ?_
    refine gj_aload_n (pc' := 22) dX11_houseLine_21 rfl rfl ?_
    refine gf_X11_23 (pc' := 25) dX11_houseLine_22 rfl (by first | rfl | assumption) rfl ?_
    refine gj_iconst (pc' := 26) dX11_houseLine_25 rfl ?_
    refine gj_iald (pc' := 27) (j := 3) (by first | rfl | assumption) (by omega) (by omega) (by decide) dX11_houseLine_26 rfl ?_
    rw [hF 3 (by decide)]
    refine gc_X11_204 (pc' := 30) dX11_houseLine_27 rfl (m_newName hM hU (s := T 3) (by omega) hn0) rfl (by first | rfl | assumption) (by decide) rfl (Nat.le_of_ble_eq_true rfl) (fun v9 h9 q9 => ?_)
    obtain ⟨rfl, k1, x1, hM1, hU1, ch1⟩ := q9
    obtain ⟨ha, rfl⟩ : ∃ x, x = h9 := ⟨h9, rfl⟩
    have c1 := ch1 R _ c0
    show gJ _ _ _ _ _ _ _ [] _ _
    refine gj_aload_n (pc' := 31) dX11_houseLine_30 rfl rfl ?_
    refine gf_X11_23 (pc' := 34) dX11_houseLine_31 rfl (by first | rfl | assumption) rfl ?_
    refine gj_iload_n (pc' := 35) dX11_houseLine_34 rfl rfl ?_
    refine gj_aload_n (pc' := 36) dX11_houseLine_35 rfl rfl ?_
    refine gj_ldcS (pc' := 38) dX11_houseLine_36 rfl (gstr_X11_208) ?_
    refine gj_iconst (pc' := 39) dX11_houseLine_38 rfl ?_
    refine gj_bipush (pc' := 41) dX11_houseLine_39 rfl (by decide) ?_
    refine gc_X11_196 (pc' := 44) dX11_houseLine_41 rfl (m_after (i := 8) (lo := 0) (hi := 99) hM1 (by decide) (by decide)) rfl (by first | rfl | assumption) (by decide) rfl (Nat.le_of_ble_eq_true rfl) (fun v9 h9 q9 => ?_)
    obtain ⟨v1, x2, rfl, k2, hM2, ch2⟩ := q9
    obtain ⟨hb, rfl⟩ : ∃ x, x = h9 := ⟨h9, rfl⟩
    have c2 := ch2 R _ c1
    show gJ _ _ _ _ _ _ _ (.int (zI (v1 : Int)) :: _) _ _
    refine gj_iast (pc' := 45) (j := 7 + 2 * T 3) (by first | rfl | assumption) (by omega) (by omega) (by decide) dX11_houseLine_44 rfl ?_
    refine gj_aload_n (pc' := 46) dX11_houseLine_45 rfl rfl ?_
    refine gf_X11_23 (pc' := 49) dX11_houseLine_46 rfl (by first | rfl | assumption) rfl ?_
    refine gj_iload_n (pc' := 50) dX11_houseLine_49 rfl rfl ?_
    refine gj_iconst (pc' := 51) dX11_houseLine_50 rfl ?_
    refine gj_iadd (pc' := 52) dX11_houseLine_51 rfl ?_
    refine gj_aload_n (pc' := 53) dX11_houseLine_52 rfl rfl ?_
    refine gj_ldcS (pc' := 55) dX11_houseLine_53 rfl (gstr_X11_209) ?_
    refine gj_iconst (pc' := 56) dX11_houseLine_55 rfl ?_
    refine gj_sipush (pc' := 59) dX11_houseLine_56 rfl (by decide) ?_
    refine gc_X11_196 (pc' := 62) dX11_houseLine_59 rfl (m_after (i := 9) (lo := 0) (hi := 300) (hM2.put (k := 7 + 2 * T 3) (v := v1)) (by decide) (by decide)) rfl (by first | rfl | assumption) (by decide) rfl (Nat.le_of_ble_eq_true rfl) (fun v9 h9 q9 => ?_)
    obtain ⟨v2, x3, rfl, k3, hM3, ch3⟩ := q9
    obtain ⟨hc, rfl⟩ : ∃ x, x = h9 := ⟨h9, rfl⟩
    have c3 := ch3 R _ c2
    have hM4 := hM3.put (k := 8 + 2 * T 3) (v := v2)
    have hE : mlE h (gui hc 146 (8 + 2 * T 3) (v2 : Int)) := k1.tr (k2.e.tr (mlE.put.tr (k3.e.tr mlE.put)))
    show gJ _ _ _ _ _ _ _ (.int (zI (v2 : Int)) :: _) _ _
    refine gj_iast (pc' := 63) (j := 8 + 2 * T 3) (by first | rfl | assumption) (by omega) (by omega) (by decide) dX11_houseLine_62 rfl ?_
    refine gj_aload_n (pc' := 64) dX11_houseLine_63 rfl rfl ?_
    refine gf_X11_91 (pc' := 67) dX11_houseLine_64 rfl (by first | rfl | assumption) rfl ?_
    rw [hM4.fl]
    first | refine gj_ifB_ne (pc' := 70) (tgt := 80) dX11_houseLine_67 (by decide) rfl (fun c67 => ?_) (fun c67 => ?_) | refine gj_if_ne (pc' := 70) (tgt := 80) dX11_houseLine_67 (by decide) rfl (by omega) (fun c67 => ?_) (fun c67 => ?_)
    · first | have g67 := of_decide_eq_true c67 | have g67 := of_decide_eq_false c67 | skip
      refine gj_vret rfl dX11_houseLine_80 ?_
      first
      | exact ⟨rfl, hE, MG_x g67 hM4 c3⟩
      | exact ⟨rfl, hE.tr mlE.put, MG_e (hM4.put (k := 3) (v := T 3 + 1)) c3⟩
    · first | have g67 := of_decide_eq_true c67 | have g67 := of_decide_eq_false c67 | skip
      refine gj_aload_n (pc' := 71) dX11_houseLine_70 rfl rfl ?_
      refine gf_X11_23 (pc' := 74) dX11_houseLine_71 rfl (by first | rfl | assumption) rfl ?_
      refine gj_iconst (pc' := 75) dX11_houseLine_74 rfl ?_
      refine gj_dup2 (pc' := 76) dX11_houseLine_75 rfl rfl rfl ?_
      have gz : x3.1 = 0 := Decidable.of_not_not g67
      have e3 : (gui hc 146 (8 + 2 * T 3) (v2 : Int)).1 146 3 = (T 3 : Int) := by
        rw [hM4.F gz (by decide), uT_n (by omega), uT_n (by omega), tkN_lo (by decide)]
      refine gj_iald (pc' := 77) (j := 3) (by first | rfl | assumption) (by omega) (by omega) (by decide) dX11_houseLine_76 rfl ?_
      rw [e3]
      refine gj_iconst (pc' := 78) dX11_houseLine_77 rfl ?_
      refine gj_iadd (pc' := 79) dX11_houseLine_78 rfl ?_
      rw [show (T 3 : Int) + 1 = ((T 3 + 1 : Nat) : Int) by omega]
      refine gj_iast (pc' := 80) (j := 3) (by first | rfl | assumption) (by omega) (by omega) (by decide) dX11_houseLine_79 rfl ?_
      refine gj_vret rfl dX11_houseLine_80 ?_
      first
      | exact ⟨rfl, hE, MG_x g67 hM4 c3⟩
      | exact ⟨rfl, hE.tr mlE.put, MG_e (hM4.put (k := 3) (v := T 3 + 1)) c3⟩
  · first | have g4 := of_decide_eq_true c4 | have g4 := of_decide_eq_false c4 | skip
    refine gj_vret rfl dX11_houseLine_7 ?_
    exact ⟨rfl, mlE.rf h, MG_x g4 hM c0⟩
theorem m_strayLine {h : gH} {B : Nat → Nat} {e : Nat} {T : Nat → Nat} {x : Nat × Nat} {R : Nat × Nat × (Nat → Nat)} (hM : MM h B e T x) (hx : x.1 = 0 → NU T ∧ T 5 < 3 ∧ T (75 + (13 + T 5)) = 0) (c0 : chR x R (lnS1 B e T x.2)) : gSp 9 yX11_strayLine cX11_strayLine 2 none [.ref 142] h (fun v h' => v = none ∧ mlE h h' ∧ MG h' B e R) := by
  have hfl := hM.fl
  refine gSp_of (by decide +kernel) (Nat.le_of_ble_eq_true rfl) ?_
  show gJ RX11 cX11_strayLine 2 none _ 0 [some (.ref 142), none] [] _ _
  refine gj_aload_n (pc' := 1) dX11_strayLine_0 rfl rfl ?_
  refine gf_X11_91 (pc' := 4) dX11_strayLine_1 rfl (by first | rfl | assumption) rfl ?_
  rw [hfl]
  first | refine gj_ifB_eq (pc' := 7) (tgt := 8) dX11_strayLine_4 (by decide) rfl (fun c4 => ?_) (fun c4 => ?_) | refine gj_if_eq (pc' := 7) (tgt := 8) dX11_strayLine_4 (by decide) rfl (by omega) (fun c4 => ?_) (fun c4 => ?_)
  · first | have g4 := of_decide_eq_true c4 | have g4 := of_decide_eq_false c4 | skip
    have g0 : x.1 = 0 := Decidable.of_not_not g4
    have hF := (hM.1 g0).2.2
    obtain ⟨hU, h5, hn0⟩ := hx g0
    refine gj_bipush (pc' := 10) dX11_strayLine_8 rfl (by decide) ?_
    refine gj_iconst (pc' := 11) dX11_strayLine_10 rfl ?_
    refine gj_aload_n (pc' := 12) dX11_strayLine_11 rfl rfl ?_
    refine gf_X11_23 (pc' := 15) dX11_strayLine_12 rfl (by first | rfl | assumption) rfl ?_
    refine gj_iconst (pc' := 16) dX11_strayLine_15 rfl ?_
    refine gj_iald (pc' := 17) (j := 5) (by first | rfl | assumption) (by omega) (by omega) (by decide) dX11_strayLine_16 rfl ?_
    rw [hF 5 (by decide)]
    refine gj_imul (pc' := 18) dX11_strayLine_17 rfl ?_
    refine gj_iadd (pc' := 19) dX11_strayLine_18 rfl ?_
    refine gj_istore_n (pc' := 20) dX11_strayLine_19 rfl (by decide) ?_
    refine gj_aload_n (pc' := 21) dX11_strayLine_20 rfl rfl ?_
    refine gj_bipush (pc' := 23) dX11_strayLine_21 rfl (by decide) ?_
    refine gj_aload_n (pc' := 24) dX11_strayLine_23 rfl rfl ?_
    refine gf_X11_23 (pc' := 27) dX11_strayLine_24 rfl (by first | rfl | assumption) rfl ?_
    refine gj_iconst (pc' := 28) dX11_strayLine_27 rfl ?_
    refine gj_iald (pc' := 29) (j := 5) (by first | rfl | assumption) (by omega) (by omega) (by decide) dX11_strayLine_28 rfl ?_
    rw [hF 5 (by decide)]
    refine gj_iadd (pc' := 30) dX11_strayLine_29 rfl ?_
    rw [show (13 : Int) + (T 5 : Int) = ((13 + T 5 : Nat) : Int) by omega]
    refine gc_X11_204 (pc' := 33) dX11_strayLine_30 rfl (m_newName hM hU (s := 13 + T 5) (by omega) hn0) rfl (by first | rfl | assumption) (by decide) rfl (Nat.le_of_ble_eq_true rfl) (fun v9 h9 q9 => ?_)
    obtain ⟨rfl, k1, x1, hM1, hU1, ch1⟩ := q9
    obtain ⟨ha, rfl⟩ : ∃ x, x = h9 := ⟨h9, rfl⟩
    have c1 := ch1 R _ c0
    show gJ _ _ _ _ _ _ _ [] _ _
    refine gj_aload_n (pc' := 34) dX11_strayLine_33 rfl rfl ?_
    refine gj_ldcS (pc' := 36) dX11_strayLine_34 rfl (gstr_X11_219) ?_
    refine gc_X11_145 (pc' := 39) dX11_strayLine_36 rfl (m_must (i := 14) hM1 (by decide)) rfl (by first | rfl | assumption) (by decide) rfl (Nat.le_of_ble_eq_true rfl) (fun v9 h9 q9 => ?_)
    obtain ⟨rfl, k2, x2, hM2, ch2⟩ := q9
    obtain ⟨hb, rfl⟩ : ∃ x, x = h9 := ⟨h9, rfl⟩
    have c2 := ch2 R _ c1
    have hU2 : x2.1 = 0 → NU (tkN B e T (13 + T 5) x.2) := fun z => hU1 (ch_up ch2 z)
    show gJ _ _ _ _ _ _ _ [] _ _
    refine gj_aload_n (pc' := 40) dX11_strayLine_39 rfl rfl ?_
    refine gf_X11_23 (pc' := 43) dX11_strayLine_40 rfl (by first | rfl | assumption) rfl ?_
    refine gj_iload_n (pc' := 44) dX11_strayLine_43 rfl rfl ?_
    refine gj_aload_n (pc' := 45) dX11_strayLine_44 rfl rfl ?_
    refine gc_X11_221 (pc' := 48) dX11_strayLine_45 rfl (m_housePassed hM2 hU2) rfl (by first | rfl | assumption) (by decide) rfl (Nat.le_of_ble_eq_true rfl) (fun v9 h9 q9 => ?_)
    obtain ⟨v1, x3, rfl, k3, hM3, hv1, ch3⟩ := q9
    obtain ⟨hc, rfl⟩ : ∃ x, x = h9 := ⟨h9, rfl⟩
    have c3 := ch3 R _ c2
    show gJ _ _ _ _ _ _ _ (.int (zI (v1 : Int)) :: _) _ _
    refine gj_iast (pc' := 49) (j := 54 + 2 * T 5) (by first | rfl | assumption) (by omega) (by omega) (by decide) dX11_strayLine_48 rfl ?_
    refine gj_aload_n (pc' := 50) dX11_strayLine_49 rfl rfl ?_
    refine gf_X11_23 (pc' := 53) dX11_strayLine_50 rfl (by first | rfl | assumption) rfl ?_
    refine gj_iload_n (pc' := 54) dX11_strayLine_53 rfl rfl ?_
    refine gj_iconst (pc' := 55) dX11_strayLine_54 rfl ?_
    refine gj_iadd (pc' := 56) dX11_strayLine_55 rfl ?_
    refine gj_aload_n (pc' := 57) dX11_strayLine_56 rfl rfl ?_
    refine gj_ldcS (pc' := 59) dX11_strayLine_57 rfl (gstr_X11_226) ?_
    refine gj_iconst (pc' := 60) dX11_strayLine_59 rfl ?_
    refine gj_bipush (pc' := 62) dX11_strayLine_60 rfl (by decide) ?_
    refine gc_X11_196 (pc' := 65) dX11_strayLine_62 rfl (m_after (i := 16) (lo := 0) (hi := 30) (hM3.put (k := 54 + 2 * T 5) (v := v1)) (by decide) (by decide)) rfl (by first | rfl | assumption) (by decide) rfl (Nat.le_of_ble_eq_true rfl) (fun v9 h9 q9 => ?_)
    obtain ⟨v2, x4, rfl, k4, hM4, ch4⟩ := q9
    obtain ⟨hd, rfl⟩ : ∃ x, x = h9 := ⟨h9, rfl⟩
    have c4 := ch4 R _ c3
    have hM5 := hM4.put (k := 55 + 2 * T 5) (v := v2)
    have hE : mlE h (gui hd 146 (55 + 2 * T 5) (v2 : Int)) := k1.tr (k2.e.tr (k3.e.tr (mlE.put.tr (k4.e.tr mlE.put))))
    show gJ _ _ _ _ _ _ _ (.int (zI (v2 : Int)) :: _) _ _
    refine gj_iast (pc' := 66) (j := 55 + 2 * T 5) (by first | rfl | assumption) (by omega) (by omega) (by decide) dX11_strayLine_65 rfl ?_
    refine gj_aload_n (pc' := 67) dX11_strayLine_66 rfl rfl ?_
    refine gf_X11_91 (pc' := 70) dX11_strayLine_67 rfl (by first | rfl | assumption) rfl ?_
    rw [hM5.fl]
    first | refine gj_ifB_ne (pc' := 73) (tgt := 83) dX11_strayLine_70 (by decide) rfl (fun c70 => ?_) (fun c70 => ?_) | refine gj_if_ne (pc' := 73) (tgt := 83) dX11_strayLine_70 (by decide) rfl (by omega) (fun c70 => ?_) (fun c70 => ?_)
    · first | have g70 := of_decide_eq_true c70 | have g70 := of_decide_eq_false c70 | skip
      refine gj_vret rfl dX11_strayLine_83 ?_
      first
      | exact ⟨rfl, hE, MG_x g70 hM5 c4⟩
      | exact ⟨rfl, hE.tr mlE.put, MG_e (hM5.put (k := 5) (v := T 5 + 1)) c4⟩
    · first | have g70 := of_decide_eq_true c70 | have g70 := of_decide_eq_false c70 | skip
      refine gj_aload_n (pc' := 74) dX11_strayLine_73 rfl rfl ?_
      refine gf_X11_23 (pc' := 77) dX11_strayLine_74 rfl (by first | rfl | assumption) rfl ?_
      refine gj_iconst (pc' := 78) dX11_strayLine_77 rfl ?_
      refine gj_dup2 (pc' := 79) dX11_strayLine_78 rfl rfl rfl ?_
      have gz : x4.1 = 0 := Decidable.of_not_not g70
      have e3 : (gui hd 146 (55 + 2 * T 5) (v2 : Int)).1 146 5 = (T 5 : Int) := by
        rw [hM5.F gz (by decide), uT_n (by omega), uT_n (by omega), tkN_lo (by decide)]
      refine gj_iald (pc' := 80) (j := 5) (by first | rfl | assumption) (by omega) (by omega) (by decide) dX11_strayLine_79 rfl ?_
      rw [e3]
      refine gj_iconst (pc' := 81) dX11_strayLine_80 rfl ?_
      refine gj_iadd (pc' := 82) dX11_strayLine_81 rfl ?_
      rw [show (T 5 : Int) + 1 = ((T 5 + 1 : Nat) : Int) by omega]
      refine gj_iast (pc' := 83) (j := 5) (by first | rfl | assumption) (by omega) (by omega) (by decide) dX11_strayLine_82 rfl ?_
      refine gj_vret rfl dX11_strayLine_83 ?_
      first
      | exact ⟨rfl, hE, MG_x g70 hM5 c4⟩
      | exact ⟨rfl, hE.tr mlE.put, MG_e (hM5.put (k := 5) (v := T 5 + 1)) c4⟩
  · first | have g4 := of_decide_eq_true c4 | have g4 := of_decide_eq_false c4 | skip
    refine gj_vret rfl dX11_strayLine_7 ?_
    exact ⟨rfl, mlE.rf h, MG_x g4 hM c0⟩
