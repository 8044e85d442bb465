/-! the model's reader: a line -/
theorem ptY_t {B : Nat → Nat} {e a b p : Nat} {T : Nat → Nat} (h0 : T 0 ≠ 0) (h : a < b) : ptY B e T a b p = (0, 0, p) := by
  unfold ptY
  rw [if_neg h0, if_pos h]
theorem ptY_5 {B : Nat → Nat} {e a b p : Nat} {T : Nat → Nat} (h0 : T 0 ≠ 0) (h : ¬ a < b) : ptY B e T a b p = (5, tS B e p, 0) := by
  unfold ptY
  rw [if_neg h0, if_neg h]
theorem ptY_6 {B : Nat → Nat} {e a b p : Nat} {T : Nat → Nat} (h0 : T 0 = 0) : ptY B e T a b p = (6, tS B e p, 0) := by
  unfold ptY
  rw [if_pos h0]
theorem m_begins {h : gH} {B : Nat → Nat} {e p i a b : Nat} {T : Nat → Nat} (hL : ML h B e p T) (hi : i < 19) (hz : ¬ a < b → T 0 ≠ 0) (h50 : T 0 ≤ 50) : gSp 6 yX11_begins cX11_begins 3 (some .boolean) [.ref 142, .ref (1000 + i), .int (zI (bI (decide (a < b))))] h (fun w h' => w = some (.int (zI (bI (tIs B e p i)))) ∧ mlN h h' ∧ (tIs B e p i = false → h' = h) ∧ (tIs B e p i = true → ∃ x', MM h' B e T x' ∧ (x'.1 = 0 → a < b) ∧ ∀ f : Nat → Nat × Nat × (Nat → Nat), chR x' (bd (ptY B e T a b p) (fun _ _ => f (tEn B e p))) (f x'.2))) := by
  have hM : MM h B e T (0, p) := MM.at hL
  have hF := hL.2.2
  refine gSp_of (by decide +kernel) (Nat.le_of_ble_eq_true rfl) ?_
  show gJ RX11 cX11_begins 3 (some .boolean) _ 0 [some (.ref 142), some (.ref (1000 + i)), some (.int (zI (bI (decide (a < b)))))] [] _ _
  refine gj_aload_n (pc' := 1) dX11_begins_0 rfl rfl ?_
  refine gj_aload_n (pc' := 2) dX11_begins_1 rfl rfl ?_
  refine gr_X11_108 (pc' := 5) dX11_begins_2 rfl (m_isWord hM hi) rfl (by first | rfl | assumption) (by decide) rfl (Nat.le_of_ble_eq_true rfl) ?_
  change gJ _ _ _ _ _ _ _ [.int (zI (bI (tIs B e p i)))] _ _
  first | refine gj_ifB_ne (pc' := 8) (tgt := 10) dX11_begins_5 (by decide) rfl (fun c5 => ?_) (fun c5 => ?_) | refine gj_if_ne (pc' := 8) (tgt := 10) dX11_begins_5 (by decide) rfl (by omega) (fun c5 => ?_) (fun c5 => ?_)
  · first | have g5 := of_decide_eq_true c5 | have g5 := of_decide_eq_false c5 | skip
    refine gj_iload_n (pc' := 11) dX11_begins_10 rfl rfl ?_
    first | refine gj_ifB_ne (pc' := 14) (tgt := 23) dX11_begins_11 (by decide) rfl (fun c11 => ?_) (fun c11 => ?_) | refine gj_if_ne (pc' := 14) (tgt := 23) dX11_begins_11 (by decide) rfl (by omega) (fun c11 => ?_) (fun c11 => ?_)
    · first | have g11 := of_decide_eq_true c11 | have g11 := of_decide_eq_false c11 | skip
      refine gj_aload_n (pc' := 24) dX11_begins_23 rfl rfl ?_
      refine gf_X11_23 (pc' := 27) dX11_begins_24 rfl (by first | rfl | assumption) rfl ?_
      refine gj_iconst (pc' := 28) dX11_begins_27 rfl ?_
      refine gj_iald (pc' := 29) (j := 0) (by first | rfl | assumption) (by omega) (by omega) (by decide) dX11_begins_28 rfl ?_
      first
      | rw [hF 0 (by decide)]
      | rw [hFa]
      first | refine gj_ifB_ne (pc' := 32) (tgt := 42) dX11_begins_29 (by decide) rfl (fun c29 => ?_) (fun c29 => ?_) | refine gj_if_ne (pc' := 32) (tgt := 42) dX11_begins_29 (by decide) rfl (by omega) (fun c29 => ?_) (fun c29 => ?_)
      · first | have g29 := of_decide_eq_true c29 | have g29 := of_decide_eq_false c29 | skip
        first
        | (have hfl2 := (v2.2 (show (6 : Nat) ≠ 0 by decide)).1)
        | (have hfl2 := (w2.2 (show (5 : Nat) ≠ 0 by decide)).1)
        | (have hfl2 := hL.1)
        refine gj_aload_n (pc' := 43) dX11_begins_42 rfl rfl ?_
        refine gf_X11_91 (pc' := 46) dX11_begins_43 rfl (by first | rfl | assumption) rfl ?_
        rw [hfl2]
        first | refine gj_ifB_ne (pc' := 49) (tgt := 53) dX11_begins_46 (by decide) rfl (fun c46 => ?_) (fun c46 => ?_) | refine gj_if_ne (pc' := 49) (tgt := 53) dX11_begins_46 (by decide) rfl (by omega) (fun c46 => ?_) (fun c46 => ?_)
        · exfalso; first | omega | (have q := of_decide_eq_true c46; omega) | (have q := of_decide_eq_false c46; omega)
        · first | have g46 := of_decide_eq_true c46 | have g46 := of_decide_eq_false c46 | skip
          refine gj_aload_n (pc' := 50) dX11_begins_49 rfl rfl ?_
          refine gc_X11_112 (pc' := 53) dX11_begins_50 rfl (m_nextL hL) rfl (by first | rfl | assumption) (by decide) rfl (Nat.le_of_ble_eq_true rfl) (fun v9 h9 q9 => ?_)
          obtain ⟨rfl, n1, n2⟩ := q9
          show gJ _ _ _ _ _ _ _ [] _ _
          refine gj_iconst (pc' := 54) dX11_begins_53 rfl ?_
          refine gj_zret rfl (by first | rfl | exact gnZ _ | assumption) dX11_begins_54 ?_
          first
          | (have y1 := v1
             refine ⟨by rw [c5]; rfl, v1, (fun z => by rw [c5] at z; cases z), fun _ => ⟨(6, tS B e p), v2, fun z => absurd (show (6 : Nat) = 0 from z) (by decide), fun f => ⟨fun z => absurd (show (6 : Nat) = 0 from z) (by decide), fun _ => ?_⟩⟩⟩
             rw [ptY_6 (by omega), bd_1 (show ¬ (6 : Nat) = 0 by decide)]
             exact ⟨rfl, rfl⟩)
          | (have y1 := w1
             refine ⟨by rw [c5]; rfl, w1, (fun z => by rw [c5] at z; cases z), fun _ => ⟨(5, tS B e p), w2, fun z => absurd (show (5 : Nat) = 0 from z) (by decide), fun f => ⟨fun z => absurd (show (5 : Nat) = 0 from z) (by decide), fun _ => ?_⟩⟩⟩
             rw [ptY_5 hz0 g11, bd_1 (show ¬ (5 : Nat) = 0 by decide)]
             exact ⟨rfl, rfl⟩)
          | (refine ⟨by rw [c5]; rfl, n1, (fun z => by rw [c5] at z; cases z), fun _ => ⟨(0, tEn B e p), MM.at n2, fun _ => g11, fun f => ⟨fun _ => ?_, fun z => absurd rfl z⟩⟩⟩
             rw [ptY_t (by omega) g11]
             rfl)
      · first | have g29 := of_decide_eq_true c29 | have g29 := of_decide_eq_false c29 | skip
        refine gj_aload_n (pc' := 33) dX11_begins_32 rfl rfl ?_
        refine gj_bipush (pc' := 35) dX11_begins_33 rfl (by decide) ?_
        refine gj_aload_n (pc' := 36) dX11_begins_35 rfl rfl ?_
        refine gf_X11_72 (pc' := 39) dX11_begins_36 rfl (by first | rfl | assumption) rfl ?_
        rw [hL.2.1.2.2.1]
        refine gc_X11_118 (pc' := 42) dX11_begins_39 rfl (m_wrong hL (k := 6) (by decide)) rfl (by first | rfl | assumption) (by decide) rfl (Nat.le_of_ble_eq_true rfl) (fun v9 h9 q9 => ?_)
        obtain ⟨rfl, v1, v2⟩ := q9
        obtain ⟨hb, rfl⟩ : ∃ x, x = h9 := ⟨h9, rfl⟩
        show gJ _ _ _ _ _ _ _ [] _ _
        first
        | (have hfl2 := (v2.2 (show (6 : Nat) ≠ 0 by decide)).1)
        | (have hfl2 := (w2.2 (show (5 : Nat) ≠ 0 by decide)).1)
        | (have hfl2 := hL.1)
        refine gj_aload_n (pc' := 43) dX11_begins_42 rfl rfl ?_
        refine gf_X11_91 (pc' := 46) dX11_begins_43 rfl (by first | rfl | assumption) rfl ?_
        rw [hfl2]
        first | refine gj_ifB_ne (pc' := 49) (tgt := 53) dX11_begins_46 (by decide) rfl (fun c46 => ?_) (fun c46 => ?_) | refine gj_if_ne (pc' := 49) (tgt := 53) dX11_begins_46 (by decide) rfl (by omega) (fun c46 => ?_) (fun c46 => ?_)
        · first | have g46 := of_decide_eq_true c46 | have g46 := of_decide_eq_false c46 | skip
          refine gj_iconst (pc' := 54) dX11_begins_53 rfl ?_
          refine gj_zret rfl (by first | rfl | exact gnZ _ | assumption) dX11_begins_54 ?_
          first
          | (have y1 := v1
             refine ⟨by rw [c5]; rfl, v1, (fun z => by rw [c5] at z; cases z), fun _ => ⟨(6, tS B e p), v2, fun z => absurd (show (6 : Nat) = 0 from z) (by decide), fun f => ⟨fun z => absurd (show (6 : Nat) = 0 from z) (by decide), fun _ => ?_⟩⟩⟩
             rw [ptY_6 (by omega), bd_1 (show ¬ (6 : Nat) = 0 by decide)]
             exact ⟨rfl, rfl⟩)
          | (have y1 := w1
             refine ⟨by rw [c5]; rfl, w1, (fun z => by rw [c5] at z; cases z), fun _ => ⟨(5, tS B e p), w2, fun z => absurd (show (5 : Nat) = 0 from z) (by decide), fun f => ⟨fun z => absurd (show (5 : Nat) = 0 from z) (by decide), fun _ => ?_⟩⟩⟩
             rw [ptY_5 hz0 g11, bd_1 (show ¬ (5 : Nat) = 0 by decide)]
             exact ⟨rfl, rfl⟩)
          | (refine ⟨by rw [c5]; rfl, n1, (fun z => by rw [c5] at z; cases z), fun _ => ⟨(0, tEn B e p), MM.at n2, fun _ => g11, fun f => ⟨fun _ => ?_, fun z => absurd rfl z⟩⟩⟩
             rw [ptY_t (by omega) g11]
             rfl)
        · exfalso; first | omega | (have q := of_decide_eq_true c46; omega) | (have q := of_decide_eq_false c46; omega)
    · first | have g11 := of_decide_eq_true c11 | have g11 := of_decide_eq_false c11 | skip
      refine gj_aload_n (pc' := 15) dX11_begins_14 rfl rfl ?_
      refine gj_iconst (pc' := 16) dX11_begins_15 rfl ?_
      refine gj_aload_n (pc' := 17) dX11_begins_16 rfl rfl ?_
      refine gf_X11_72 (pc' := 20) dX11_begins_17 rfl (by first | rfl | assumption) rfl ?_
      rw [hL.2.1.2.2.1]
      refine gc_X11_118 (pc' := 23) dX11_begins_20 rfl (m_wrong hL (k := 5) (by decide)) rfl (by first | rfl | assumption) (by decide) rfl (Nat.le_of_ble_eq_true rfl) (fun v9 h9 q9 => ?_)
      obtain ⟨rfl, w1, w2⟩ := q9
      obtain ⟨ha, rfl⟩ : ∃ x, x = h9 := ⟨h9, rfl⟩
      have hFa : ha.1 146 0 = (T 0 : Int) := by
        rw [w1.2.1 146 (by decide) (by decide)]
        exact hF 0 (by decide)
      have hz0 := hz g11
      show gJ _ _ _ _ _ _ _ [] _ _
      refine gj_aload_n (pc' := 24) dX11_begins_23 rfl rfl ?_
      refine gf_X11_23 (pc' := 27) dX11_begins_24 rfl (by first | rfl | assumption) rfl ?_
      refine gj_iconst (pc' := 28) dX11_begins_27 rfl ?_
      refine gj_iald (pc' := 29) (j := 0) (by first | rfl | assumption) (by omega) (by omega) (by decide) dX11_begins_28 rfl ?_
      first
      | rw [hF 0 (by decide)]
      | rw [hFa]
      first | refine gj_ifB_ne (pc' := 32) (tgt := 42) dX11_begins_29 (by decide) rfl (fun c29 => ?_) (fun c29 => ?_) | refine gj_if_ne (pc' := 32) (tgt := 42) dX11_begins_29 (by decide) rfl (by omega) (fun c29 => ?_) (fun c29 => ?_)
      · first | have g29 := of_decide_eq_true c29 | have g29 := of_decide_eq_false c29 | skip
        first
        | (have hfl2 := (v2.2 (show (6 : Nat) ≠ 0 by decide)).1)
        | (have hfl2 := (w2.2 (show (5 : Nat) ≠ 0 by decide)).1)
        | (have hfl2 := hL.1)
        refine gj_aload_n (pc' := 43) dX11_begins_42 rfl rfl ?_
        refine gf_X11_91 (pc' := 46) dX11_begins_43 rfl (by first | rfl | assumption) rfl ?_
        rw [hfl2]
        first | refine gj_ifB_ne (pc' := 49) (tgt := 53) dX11_begins_46 (by decide) rfl (fun c46 => ?_) (fun c46 => ?_) | refine gj_if_ne (pc' := 49) (tgt := 53) dX11_begins_46 (by decide) rfl (by omega) (fun c46 => ?_) (fun c46 => ?_)
        · first | have g46 := of_decide_eq_true c46 | have g46 := of_decide_eq_false c46 | skip
          refine gj_iconst (pc' := 54) dX11_begins_53 rfl ?_
          refine gj_zret rfl (by first | rfl | exact gnZ _ | assumption) dX11_begins_54 ?_
          first
          | (have y1 := v1
             refine ⟨by rw [c5]; rfl, v1, (fun z => by rw [c5] at z; cases z), fun _ => ⟨(6, tS B e p), v2, fun z => absurd (show (6 : Nat) = 0 from z) (by decide), fun f => ⟨fun z => absurd (show (6 : Nat) = 0 from z) (by decide), fun _ => ?_⟩⟩⟩
             rw [ptY_6 (by omega), bd_1 (show ¬ (6 : Nat) = 0 by decide)]
             exact ⟨rfl, rfl⟩)
          | (have y1 := w1
             refine ⟨by rw [c5]; rfl, w1, (fun z => by rw [c5] at z; cases z), fun _ => ⟨(5, tS B e p), w2, fun z => absurd (show (5 : Nat) = 0 from z) (by decide), fun f => ⟨fun z => absurd (show (5 : Nat) = 0 from z) (by decide), fun _ => ?_⟩⟩⟩
             rw [ptY_5 hz0 g11, bd_1 (show ¬ (5 : Nat) = 0 by decide)]
             exact ⟨rfl, rfl⟩)
          | (refine ⟨by rw [c5]; rfl, n1, (fun z => by rw [c5] at z; cases z), fun _ => ⟨(0, tEn B e p), MM.at n2, fun _ => g11, fun f => ⟨fun _ => ?_, fun z => absurd rfl z⟩⟩⟩
             rw [ptY_t (by omega) g11]
             rfl)
        · exfalso; first | omega | (have q := of_decide_eq_true c46; omega) | (have q := of_decide_eq_false c46; omega)
      · exfalso; first | omega | (have q := of_decide_eq_true c29; omega) | (have q := of_decide_eq_false c29; omega)
  · first | have g5 := of_decide_eq_true c5 | have g5 := of_decide_eq_false c5 | skip
    refine gj_iconst (pc' := 9) dX11_begins_8 rfl ?_
    refine gj_zret rfl (by first | rfl | exact gnZ _ | assumption) dX11_begins_9 ?_
    exact ⟨by rw [c5]; rfl, mlN.rf h, fun _ => rfl, fun z => by rw [c5] at z; cases z⟩
/-- what stands ahead of a line -/
def prL (T : Nat → Nat) : Prop := NU T ∧ TL T ∧ (T 0 = 0 → T 3 = 0 ∧ T 4 = 0 ∧ T 5 = 0 ∧ T 6 = 0)
theorem m_rl4 {h : gH} {B : Nat → Nat} {e p : Nat} {T : Nat → Nat} (hL : ML h B e p T) (hP : prL T) (z0 : tIs B e p 0 = false) (z1 : tIs B e p 1 = false) (z2 : tIs B e p 2 = false) (z3 : tIs B e p 3 = false) : gJ RX11 cX11_readLine 1 none 10 111 [some (.ref 142)] [] h (fun v h' => v = none ∧ mlE h h' ∧ MG h' B e (ptL B e T p)) := by
  obtain ⟨hU, hTL, hz⟩ := id hP
  obtain ⟨⟨l0, l1, l2, l3, l4, l5, l6⟩, l7, l8, l9, l10, l11⟩ := id hTL
  have hF := hL.2.2
  have hR : tIs B e p 4 = true → ptL B e T p = bd (ptY B e T (T 6) 5 p) (fun _ _ => lnK1 B e T (tEn B e p)) := fun z => by
    unfold ptL
    rw [if_neg (show ¬ tIs B e p 0 = true by rw [z0]; decide), if_neg (show ¬ tIs B e p 1 = true by rw [z1]; decide), if_neg (show ¬ tIs B e p 2 = true by rw [z2]; decide), if_neg (show ¬ tIs B e p 3 = true by rw [z3]; decide), if_pos z]
    rfl
  have hR2 : tIs B e p 4 = false → ptL B e T p = (1, tS B e p, fun _ => 0) := fun z => by
    unfold ptL
    rw [if_neg (show ¬ tIs B e p 0 = true by rw [z0]; decide), if_neg (show ¬ tIs B e p 1 = true by rw [z1]; decide), if_neg (show ¬ tIs B e p 2 = true by rw [z2]; decide), if_neg (show ¬ tIs B e p 3 = true by rw [z3]; decide), if_neg (show ¬ tIs B e p 4 = true by rw [z]; decide)]
  refine gj_aload_n (pc' := 112) dX11_readLine_111 rfl rfl ?_
  refine gj_ldcS (pc' := 114) dX11_readLine_112 rfl (gstr_X11_130) ?_
  refine gj_aload_n (pc' := 115) dX11_readLine_114 rfl rfl ?_
  refine gf_X11_23 (pc' := 118) dX11_readLine_115 rfl (by first | rfl | assumption) rfl ?_
  refine gj_bipush (pc' := 120) dX11_readLine_118 rfl (by decide) ?_
  refine gj_iald (pc' := 121) (j := 6) (by first | rfl | assumption) (by omega) (by omega) (by decide) dX11_readLine_120 rfl ?_
  rw [hF 6 (by decide)]
  refine gj_iconst (pc' := 122) dX11_readLine_121 rfl ?_
  refine gj_icmp_ge (pc' := 125) (tgt := 129) dX11_readLine_122 (by decide) rfl (by omega) (fun c122 => ?_) (fun c122 => ?_)
  · refine gj_iconst (pc' := 130) dX11_readLine_129 rfl ?_
    refine gJ_t ?_ (show (0 : Int) = bI (decide (T 6 < 5)) by rw [decide_eq_false (by omega)]; rfl)
    refine gc_X11_178 (pc' := 133) dX11_readLine_130 rfl (m_begins (i := 4) (a := T 6) (b := 5) hL (by decide) (by omega) l0) rfl (by first | rfl | assumption) (by decide) rfl (Nat.le_of_ble_eq_true rfl) (fun v9 h9 q9 => ?_)
    obtain ⟨rfl, b1, b2, b3⟩ := q9
    obtain ⟨ha, rfl⟩ : ∃ x, x = h9 := ⟨h9, rfl⟩
    show gJ _ _ _ _ _ _ _ [.int (zI (bI (tIs B e p 4)))] _ _
    first | refine gj_ifB_eq (pc' := 136) (tgt := 143) dX11_readLine_133 (by decide) rfl (fun c133 => ?_) (fun c133 => ?_) | refine gj_if_eq (pc' := 136) (tgt := 143) dX11_readLine_133 (by decide) rfl (by omega) (fun c133 => ?_) (fun c133 => ?_)
    · first | have g133 := of_decide_eq_true c133 | have g133 := of_decide_eq_false c133 | skip
      rw [b2 c133]
      refine gj_aload_n (pc' := 144) dX11_readLine_143 rfl rfl ?_
      refine gj_iconst (pc' := 145) dX11_readLine_144 rfl ?_
      refine gj_aload_n (pc' := 146) dX11_readLine_145 rfl rfl ?_
      refine gf_X11_72 (pc' := 149) dX11_readLine_146 rfl (by first | rfl | assumption) rfl ?_
      rw [hL.2.1.2.2.1]
      refine gc_X11_118 (pc' := 152) dX11_readLine_149 rfl (m_wrong hL (k := 1) (by decide)) rfl (by first | rfl | assumption) (by decide) rfl (Nat.le_of_ble_eq_true rfl) (fun v9 h9 q9 => ?_)
      obtain ⟨rfl, w1, w2⟩ := q9
      show gJ _ _ _ _ _ _ _ [] _ _
      refine gj_vret rfl dX11_readLine_152 ?_
      first
      | exact ⟨rfl, b1.e.tr w1, w2⟩
      | (rw [hR2 c133]
         exact ⟨rfl, w1.e, fun z => absurd (show (1 : Nat) = 0 from z) (by decide), fun _ => w2.2 (show (1 : Nat) ≠ 0 by decide)⟩)
    · first | have g133 := of_decide_eq_true c133 | have g133 := of_decide_eq_false c133 | skip
      obtain ⟨x', hM', hlt, hch⟩ := b3 c133
      have c0 := hch (lnK1 B e T)
      rw [← hR c133] at c0
      refine gj_aload_n (pc' := 137) dX11_readLine_136 rfl rfl ?_
      refine gc_X11_191 (pc' := 140) dX11_readLine_137 rfl (m_seenLine hM' (fun z => ⟨hU, hlt z, fun k hk => by have := l10 k hk; omega⟩) c0) rfl (by first | rfl | assumption) (by decide) rfl (Nat.le_of_ble_eq_true rfl) (fun v9 h9 q9 => ?_)
      obtain ⟨rfl, w1, w2⟩ := q9
      show gJ _ _ _ _ _ _ _ [] _ _
      refine gj_goto (pc' := 152) dX11_readLine_140 (by decide) ?_
      refine gj_vret rfl dX11_readLine_152 ?_
      first
      | exact ⟨rfl, b1.e.tr w1, w2⟩
      | (rw [hR2 c133]
         exact ⟨rfl, w1.e, fun z => absurd (show (1 : Nat) = 0 from z) (by decide), fun _ => w2.2 (show (1 : Nat) ≠ 0 by decide)⟩)
  · refine gj_iconst (pc' := 126) dX11_readLine_125 rfl ?_
    refine gJ_t ?_ (show (1 : Int) = bI (decide (T 6 < 5)) by rw [decide_eq_true (by omega)]; rfl)
    refine gj_goto (pc' := 130) dX11_readLine_126 (by decide) ?_
    refine gc_X11_178 (pc' := 133) dX11_readLine_130 rfl (m_begins (i := 4) (a := T 6) (b := 5) hL (by decide) (by omega) l0) rfl (by first | rfl | assumption) (by decide) rfl (Nat.le_of_ble_eq_true rfl) (fun v9 h9 q9 => ?_)
    obtain ⟨rfl, b1, b2, b3⟩ := q9
    obtain ⟨ha, rfl⟩ : ∃ x, x = h9 := ⟨h9, rfl⟩
    show gJ _ _ _ _ _ _ _ [.int (zI (bI (tIs B e p 4)))] _ _
    first | refine gj_ifB_eq (pc' := 136) (tgt := 143) dX11_readLine_133 (by decide) rfl (fun c133 => ?_) (fun c133 => ?_) | refine gj_if_eq (pc' := 136) (tgt := 143) dX11_readLine_133 (by decide) rfl (by omega) (fun c133 => ?_) (fun c133 => ?_)
    · first | have g133 := of_decide_eq_true c133 | have g133 := of_decide_eq_false c133 | skip
      rw [b2 c133]
      refine gj_aload_n (pc' := 144) dX11_readLine_143 rfl rfl ?_
      refine gj_iconst (pc' := 145) dX11_readLine_144 rfl ?_
      refine gj_aload_n (pc' := 146) dX11_readLine_145 rfl rfl ?_
      refine gf_X11_72 (pc' := 149) dX11_readLine_146 rfl (by first | rfl | assumption) rfl ?_
      rw [hL.2.1.2.2.1]
      refine gc_X11_118 (pc' := 152) dX11_readLine_149 rfl (m_wrong hL (k := 1) (by decide)) rfl (by first | rfl | assumption) (by decide) rfl (Nat.le_of_ble_eq_true rfl) (fun v9 h9 q9 => ?_)
      obtain ⟨rfl, w1, w2⟩ := q9
      show gJ _ _ _ _ _ _ _ [] _ _
      refine gj_vret rfl dX11_readLine_152 ?_
      first
      | exact ⟨rfl, b1.e.tr w1, w2⟩
      | (rw [hR2 c133]
         exact ⟨rfl, w1.e, fun z => absurd (show (1 : Nat) = 0 from z) (by decide), fun _ => w2.2 (show (1 : Nat) ≠ 0 by decide)⟩)
    · first | have g133 := of_decide_eq_true c133 | have g133 := of_decide_eq_false c133 | skip
      obtain ⟨x', hM', hlt, hch⟩ := b3 c133
      have c0 := hch (lnK1 B e T)
      rw [← hR c133] at c0
      refine gj_aload_n (pc' := 137) dX11_readLine_136 rfl rfl ?_
      refine gc_X11_191 (pc' := 140) dX11_readLine_137 rfl (m_seenLine hM' (fun z => ⟨hU, hlt z, fun k hk => by have := l10 k hk; omega⟩) c0) rfl (by first | rfl | assumption) (by decide) rfl (Nat.le_of_ble_eq_true rfl) (fun v9 h9 q9 => ?_)
      obtain ⟨rfl, w1, w2⟩ := q9
      show gJ _ _ _ _ _ _ _ [] _ _
      refine gj_goto (pc' := 152) dX11_readLine_140 (by decide) ?_
      refine gj_vret rfl dX11_readLine_152 ?_
      first
      | exact ⟨rfl, b1.e.tr w1, w2⟩
      | (rw [hR2 c133]
         exact ⟨rfl, w1.e, fun z => absurd (show (1 : Nat) = 0 from z) (by decide), fun _ => w2.2 (show (1 : Nat) ≠ 0 by decide)⟩)
theorem m_rl3 {h : gH} {B : Nat → Nat} {e p : Nat} {T : Nat → Nat} (hL : ML h B e p T) (hP : prL T) (z0 : tIs B e p 0 = false) (z1 : tIs B e p 1 = false) (z2 : tIs B e p 2 = false) : gJ RX11 cX11_readLine 1 none 10 80 [some (.ref 142)] [] h (fun v h' => v = none ∧ mlE h h' ∧ MG h' B e (ptL B e T p)) := by
  obtain ⟨hU, hTL, hz⟩ := id hP
  obtain ⟨⟨l0, l1, l2, l3, l4, l5, l6⟩, l7, l8, l9, l10, l11⟩ := id hTL
  have hF := hL.2.2
  have hR : tIs B e p 3 = true → ptL B e T p = bd (ptY B e T (T 5) 3 p) (fun _ _ => lnS1 B e T (tEn B e p)) := fun z => by
    unfold ptL
    rw [if_neg (show ¬ tIs B e p 0 = true by rw [z0]; decide), if_neg (show ¬ tIs B e p 1 = true by rw [z1]; decide), if_neg (show ¬ tIs B e p 2 = true by rw [z2]; decide), if_pos z]
    rfl
  refine gj_aload_n (pc' := 81) dX11_readLine_80 rfl rfl ?_
  refine gj_ldcS (pc' := 83) dX11_readLine_81 rfl (gstr_X11_128) ?_
  refine gj_aload_n (pc' := 84) dX11_readLine_83 rfl rfl ?_
  refine gf_X11_23 (pc' := 87) dX11_readLine_84 rfl (by first | rfl | assumption) rfl ?_
  refine gj_iconst (pc' := 88) dX11_readLine_87 rfl ?_
  refine gj_iald (pc' := 89) (j := 5) (by first | rfl | assumption) (by omega) (by omega) (by decide) dX11_readLine_88 rfl ?_
  rw [hF 5 (by decide)]
  refine gj_iconst (pc' := 90) dX11_readLine_89 rfl ?_
  refine gj_icmp_ge (pc' := 93) (tgt := 97) dX11_readLine_90 (by decide) rfl (by omega) (fun c90 => ?_) (fun c90 => ?_)
  · refine gj_iconst (pc' := 98) dX11_readLine_97 rfl ?_
    refine gJ_t ?_ (show (0 : Int) = bI (decide (T 5 < 3)) by rw [decide_eq_false (by omega)]; rfl)
    refine gc_X11_178 (pc' := 101) dX11_readLine_98 rfl (m_begins (i := 3) (a := T 5) (b := 3) hL (by decide) (by omega) l0) rfl (by first | rfl | assumption) (by decide) rfl (Nat.le_of_ble_eq_true rfl) (fun v9 h9 q9 => ?_)
    obtain ⟨rfl, b1, b2, b3⟩ := q9
    obtain ⟨ha, rfl⟩ : ∃ x, x = h9 := ⟨h9, rfl⟩
    show gJ _ _ _ _ _ _ _ [.int (zI (bI (tIs B e p 3)))] _ _
    first | refine gj_ifB_eq (pc' := 104) (tgt := 111) dX11_readLine_101 (by decide) rfl (fun c101 => ?_) (fun c101 => ?_) | refine gj_if_eq (pc' := 104) (tgt := 111) dX11_readLine_101 (by decide) rfl (by omega) (fun c101 => ?_) (fun c101 => ?_)
    · first | have g101 := of_decide_eq_true c101 | have g101 := of_decide_eq_false c101 | skip
      rw [b2 c101]
      exact m_rl4 hL hP z0 z1 z2 c101
    · first | have g101 := of_decide_eq_true c101 | have g101 := of_decide_eq_false c101 | skip
      obtain ⟨x', hM', hlt, hch⟩ := b3 c101
      have c0 := hch (lnS1 B e T)
      rw [← hR c101] at c0
      refine gj_aload_n (pc' := 105) dX11_readLine_104 rfl rfl ?_
      refine gc_X11_188 (pc' := 108) dX11_readLine_105 rfl (m_strayLine hM' (fun z => ⟨hU, hlt z, by have := l11 (13 + T 5) (by have := hlt z; omega); omega⟩) c0) rfl (by first | rfl | assumption) (by decide) rfl (Nat.le_of_ble_eq_true rfl) (fun v9 h9 q9 => ?_)
      obtain ⟨rfl, w1, w2⟩ := q9
      show gJ _ _ _ _ _ _ _ [] _ _
      refine gj_goto (pc' := 152) dX11_readLine_108 (by decide) ?_
      refine gj_vret rfl dX11_readLine_152 ?_
      first
      | exact ⟨rfl, b1.e.tr w1, w2⟩
  · refine gj_iconst (pc' := 94) dX11_readLine_93 rfl ?_
    refine gJ_t ?_ (show (1 : Int) = bI (decide (T 5 < 3)) by rw [decide_eq_true (by omega)]; rfl)
    refine gj_goto (pc' := 98) dX11_readLine_94 (by decide) ?_
    refine gc_X11_178 (pc' := 101) dX11_readLine_98 rfl (m_begins (i := 3) (a := T 5) (b := 3) hL (by decide) (by omega) l0) rfl (by first | rfl | assumption) (by decide) rfl (Nat.le_of_ble_eq_true rfl) (fun v9 h9 q9 => ?_)
    obtain ⟨rfl, b1, b2, b3⟩ := q9
    obtain ⟨ha, rfl⟩ : ∃ x, x = h9 := ⟨h9, rfl⟩
    show gJ _ _ _ _ _ _ _ [.int (zI (bI (tIs B e p 3)))] _ _
    first | refine gj_ifB_eq (pc' := 104) (tgt := 111) dX11_readLine_101 (by decide) rfl (fun c101 => ?_) (fun c101 => ?_) | refine gj_if_eq (pc' := 104) (tgt := 111) dX11_readLine_101 (by decide) rfl (by omega) (fun c101 => ?_) (fun c101 => ?_)
    · first | have g101 := of_decide_eq_true c101 | have g101 := of_decide_eq_false c101 | skip
      rw [b2 c101]
      exact m_rl4 hL hP z0 z1 z2 c101
    · first | have g101 := of_decide_eq_true c101 | have g101 := of_decide_eq_false c101 | skip
      obtain ⟨x', hM', hlt, hch⟩ := b3 c101
      have c0 := hch (lnS1 B e T)
      rw [← hR c101] at c0
      refine gj_aload_n (pc' := 105) dX11_readLine_104 rfl rfl ?_
      refine gc_X11_188 (pc' := 108) dX11_readLine_105 rfl (m_strayLine hM' (fun z => ⟨hU, hlt z, by have := l11 (13 + T 5) (by have := hlt z; omega); omega⟩) c0) rfl (by first | rfl | assumption) (by decide) rfl (Nat.le_of_ble_eq_true rfl) (fun v9 h9 q9 => ?_)
      obtain ⟨rfl, w1, w2⟩ := q9
      show gJ _ _ _ _ _ _ _ [] _ _
      refine gj_goto (pc' := 152) dX11_readLine_108 (by decide) ?_
      refine gj_vret rfl dX11_readLine_152 ?_
      first
      | exact ⟨rfl, b1.e.tr w1, w2⟩
theorem m_rl2 {h : gH} {B : Nat → Nat} {e p : Nat} {T : Nat → Nat} (hL : ML h B e p T) (hP : prL T) (z0 : tIs B e p 0 = false) (z1 : tIs B e p 1 = false) : gJ RX11 cX11_readLine 1 none 10 48 [some (.ref 142)] [] h (fun v h' => v = none ∧ mlE h h' ∧ MG h' B e (ptL B e T p)) := by
  obtain ⟨hU, hTL, hz⟩ := id hP
  obtain ⟨⟨l0, l1, l2, l3, l4, l5, l6⟩, l7, l8, l9, l10, l11⟩ := id hTL
  have hF := hL.2.2
  have hR : tIs B e p 2 = true → ptL B e T p = bd (ptY B e T (T 4) 7 p) (fun _ _ => lnB1 B e T (tEn B e p)) := fun z => by
    unfold ptL
    rw [if_neg (show ¬ tIs B e p 0 = true by rw [z0]; decide), if_neg (show ¬ tIs B e p 1 = true by rw [z1]; decide), if_pos z]
    rfl
  refine gj_aload_n (pc' := 49) dX11_readLine_48 rfl rfl ?_
  refine gj_ldcS (pc' := 51) dX11_readLine_49 rfl (gstr_X11_126) ?_
  refine gj_aload_n (pc' := 52) dX11_readLine_51 rfl rfl ?_
  refine gf_X11_23 (pc' := 55) dX11_readLine_52 rfl (by first | rfl | assumption) rfl ?_
  refine gj_iconst (pc' := 56) dX11_readLine_55 rfl ?_
  refine gj_iald (pc' := 57) (j := 4) (by first | rfl | assumption) (by omega) (by omega) (by decide) dX11_readLine_56 rfl ?_
  rw [hF 4 (by decide)]
  refine gj_bipush (pc' := 59) dX11_readLine_57 rfl (by decide) ?_
  refine gj_icmp_ge (pc' := 62) (tgt := 66) dX11_readLine_59 (by decide) rfl (by omega) (fun c59 => ?_) (fun c59 => ?_)
  · refine gj_iconst (pc' := 67) dX11_readLine_66 rfl ?_
    refine gJ_t ?_ (show (0 : Int) = bI (decide (T 4 < 7)) by rw [decide_eq_false (by omega)]; rfl)
    refine gc_X11_178 (pc' := 70) dX11_readLine_67 rfl (m_begins (i := 2) (a := T 4) (b := 7) hL (by decide) (by omega) l0) rfl (by first | rfl | assumption) (by decide) rfl (Nat.le_of_ble_eq_true rfl) (fun v9 h9 q9 => ?_)
    obtain ⟨rfl, b1, b2, b3⟩ := q9
    obtain ⟨ha, rfl⟩ : ∃ x, x = h9 := ⟨h9, rfl⟩
    show gJ _ _ _ _ _ _ _ [.int (zI (bI (tIs B e p 2)))] _ _
    first | refine gj_ifB_eq (pc' := 73) (tgt := 80) dX11_readLine_70 (by decide) rfl (fun c70 => ?_) (fun c70 => ?_) | refine gj_if_eq (pc' := 73) (tgt := 80) dX11_readLine_70 (by decide) rfl (by omega) (fun c70 => ?_) (fun c70 => ?_)
    · first | have g70 := of_decide_eq_true c70 | have g70 := of_decide_eq_false c70 | skip
      rw [b2 c70]
      exact m_rl3 hL hP z0 z1 c70
    · first | have g70 := of_decide_eq_true c70 | have g70 := of_decide_eq_false c70 | skip
      obtain ⟨x', hM', hlt, hch⟩ := b3 c70
      have c0 := hch (lnB1 B e T)
      rw [← hR c70] at c0
      refine gj_aload_n (pc' := 74) dX11_readLine_73 rfl rfl ?_
      refine gc_X11_185 (pc' := 77) dX11_readLine_74 rfl (m_birdLine hM' (fun z => ⟨hU, hlt z, by have := l11 (6 + T 4) (by have := hlt z; omega); omega⟩) c0) rfl (by first | rfl | assumption) (by decide) rfl (Nat.le_of_ble_eq_true rfl) (fun v9 h9 q9 => ?_)
      obtain ⟨rfl, w1, w2⟩ := q9
      show gJ _ _ _ _ _ _ _ [] _ _
      refine gj_goto (pc' := 152) dX11_readLine_77 (by decide) ?_
      refine gj_vret rfl dX11_readLine_152 ?_
      first
      | exact ⟨rfl, b1.e.tr w1, w2⟩
  · refine gj_iconst (pc' := 63) dX11_readLine_62 rfl ?_
    refine gJ_t ?_ (show (1 : Int) = bI (decide (T 4 < 7)) by rw [decide_eq_true (by omega)]; rfl)
    refine gj_goto (pc' := 67) dX11_readLine_63 (by decide) ?_
    refine gc_X11_178 (pc' := 70) dX11_readLine_67 rfl (m_begins (i := 2) (a := T 4) (b := 7) hL (by decide) (by omega) l0) rfl (by first | rfl | assumption) (by decide) rfl (Nat.le_of_ble_eq_true rfl) (fun v9 h9 q9 => ?_)
    obtain ⟨rfl, b1, b2, b3⟩ := q9
    obtain ⟨ha, rfl⟩ : ∃ x, x = h9 := ⟨h9, rfl⟩
    show gJ _ _ _ _ _ _ _ [.int (zI (bI (tIs B e p 2)))] _ _
    first | refine gj_ifB_eq (pc' := 73) (tgt := 80) dX11_readLine_70 (by decide) rfl (fun c70 => ?_) (fun c70 => ?_) | refine gj_if_eq (pc' := 73) (tgt := 80) dX11_readLine_70 (by decide) rfl (by omega) (fun c70 => ?_) (fun c70 => ?_)
    · first | have g70 := of_decide_eq_true c70 | have g70 := of_decide_eq_false c70 | skip
      rw [b2 c70]
      exact m_rl3 hL hP z0 z1 c70
    · first | have g70 := of_decide_eq_true c70 | have g70 := of_decide_eq_false c70 | skip
      obtain ⟨x', hM', hlt, hch⟩ := b3 c70
      have c0 := hch (lnB1 B e T)
      rw [← hR c70] at c0
      refine gj_aload_n (pc' := 74) dX11_readLine_73 rfl rfl ?_
      refine gc_X11_185 (pc' := 77) dX11_readLine_74 rfl (m_birdLine hM' (fun z => ⟨hU, hlt z, by have := l11 (6 + T 4) (by have := hlt z; omega); omega⟩) c0) rfl (by first | rfl | assumption) (by decide) rfl (Nat.le_of_ble_eq_true rfl) (fun v9 h9 q9 => ?_)
      obtain ⟨rfl, w1, w2⟩ := q9
      show gJ _ _ _ _ _ _ _ [] _ _
      refine gj_goto (pc' := 152) dX11_readLine_77 (by decide) ?_
      refine gj_vret rfl dX11_readLine_152 ?_
      first
      | exact ⟨rfl, b1.e.tr w1, w2⟩
theorem m_rl1 {h : gH} {B : Nat → Nat} {e p : Nat} {T : Nat → Nat} (hL : ML h B e p T) (hP : prL T) (z0 : tIs B e p 0 = false) : gJ RX11 cX11_readLine 1 none 10 16 [some (.ref 142)] [] h (fun v h' => v = none ∧ mlE h h' ∧ MG h' B e (ptL B e T p)) := by
  obtain ⟨hU, hTL, hz⟩ := id hP
  obtain ⟨⟨l0, l1, l2, l3, l4, l5, l6⟩, l7, l8, l9, l10, l11⟩ := id hTL
  have hF := hL.2.2
  have hR : tIs B e p 1 = true → ptL B e T p = bd (ptY B e T (T 3) 6 p) (fun _ _ => lnH1 B e T (tEn B e p)) := fun z => by
    unfold ptL
    rw [if_neg (show ¬ tIs B e p 0 = true by rw [z0]; decide), if_pos z]
    rfl
  refine gj_aload_n (pc' := 17) dX11_readLine_16 rfl rfl ?_
  refine gj_ldcS (pc' := 19) dX11_readLine_17 rfl (gstr_X11_124) ?_
  refine gj_aload_n (pc' := 20) dX11_readLine_19 rfl rfl ?_
  refine gf_X11_23 (pc' := 23) dX11_readLine_20 rfl (by first | rfl | assumption) rfl ?_
  refine gj_iconst (pc' := 24) dX11_readLine_23 rfl ?_
  refine gj_iald (pc' := 25) (j := 3) (by first | rfl | assumption) (by omega) (by omega) (by decide) dX11_readLine_24 rfl ?_
  rw [hF 3 (by decide)]
  refine gj_bipush (pc' := 27) dX11_readLine_25 rfl (by decide) ?_
  refine gj_icmp_ge (pc' := 30) (tgt := 34) dX11_readLine_27 (by decide) rfl (by omega) (fun c27 => ?_) (fun c27 => ?_)
  · refine gj_iconst (pc' := 35) dX11_readLine_34 rfl ?_
    refine gJ_t ?_ (show (0 : Int) = bI (decide (T 3 < 6)) by rw [decide_eq_false (by omega)]; rfl)
    refine gc_X11_178 (pc' := 38) dX11_readLine_35 rfl (m_begins (i := 1) (a := T 3) (b := 6) hL (by decide) (by omega) l0) rfl (by first | rfl | assumption) (by decide) rfl (Nat.le_of_ble_eq_true rfl) (fun v9 h9 q9 => ?_)
    obtain ⟨rfl, b1, b2, b3⟩ := q9
    obtain ⟨ha, rfl⟩ : ∃ x, x = h9 := ⟨h9, rfl⟩
    show gJ _ _ _ _ _ _ _ [.int (zI (bI (tIs B e p 1)))] _ _
    first | refine gj_ifB_eq (pc' := 41) (tgt := 48) dX11_readLine_38 (by decide) rfl (fun c38 => ?_) (fun c38 => ?_) | refine gj_if_eq (pc' := 41) (tgt := 48) dX11_readLine_38 (by decide) rfl (by omega) (fun c38 => ?_) (fun c38 => ?_)
    · first | have g38 := of_decide_eq_true c38 | have g38 := of_decide_eq_false c38 | skip
      rw [b2 c38]
      exact m_rl2 hL hP z0 c38
    · first | have g38 := of_decide_eq_true c38 | have g38 := of_decide_eq_false c38 | skip
      obtain ⟨x', hM', hlt, hch⟩ := b3 c38
      have c0 := hch (lnH1 B e T)
      rw [← hR c38] at c0
      refine gj_aload_n (pc' := 42) dX11_readLine_41 rfl rfl ?_
      refine gc_X11_182 (pc' := 45) dX11_readLine_42 rfl (m_houseLine hM' (fun z => ⟨hU, hlt z, by have := l11 (T 3) (by have := hlt z; omega); omega⟩) c0) rfl (by first | rfl | assumption) (by decide) rfl (Nat.le_of_ble_eq_true rfl) (fun v9 h9 q9 => ?_)
      obtain ⟨rfl, w1, w2⟩ := q9
      show gJ _ _ _ _ _ _ _ [] _ _
      refine gj_goto (pc' := 152) dX11_readLine_45 (by decide) ?_
      refine gj_vret rfl dX11_readLine_152 ?_
      first
      | exact ⟨rfl, b1.e.tr w1, w2⟩
  · refine gj_iconst (pc' := 31) dX11_readLine_30 rfl ?_
    refine gJ_t ?_ (show (1 : Int) = bI (decide (T 3 < 6)) by rw [decide_eq_true (by omega)]; rfl)
    refine gj_goto (pc' := 35) dX11_readLine_31 (by decide) ?_
    refine gc_X11_178 (pc' := 38) dX11_readLine_35 rfl (m_begins (i := 1) (a := T 3) (b := 6) hL (by decide) (by omega) l0) rfl (by first | rfl | assumption) (by decide) rfl (Nat.le_of_ble_eq_true rfl) (fun v9 h9 q9 => ?_)
    obtain ⟨rfl, b1, b2, b3⟩ := q9
    obtain ⟨ha, rfl⟩ : ∃ x, x = h9 := ⟨h9, rfl⟩
    show gJ _ _ _ _ _ _ _ [.int (zI (bI (tIs B e p 1)))] _ _
    first | refine gj_ifB_eq (pc' := 41) (tgt := 48) dX11_readLine_38 (by decide) rfl (fun c38 => ?_) (fun c38 => ?_) | refine gj_if_eq (pc' := 41) (tgt := 48) dX11_readLine_38 (by decide) rfl (by omega) (fun c38 => ?_) (fun c38 => ?_)
    · first | have g38 := of_decide_eq_true c38 | have g38 := of_decide_eq_false c38 | skip
      rw [b2 c38]
      exact m_rl2 hL hP z0 c38
    · first | have g38 := of_decide_eq_true c38 | have g38 := of_decide_eq_false c38 | skip
      obtain ⟨x', hM', hlt, hch⟩ := b3 c38
      have c0 := hch (lnH1 B e T)
      rw [← hR c38] at c0
      refine gj_aload_n (pc' := 42) dX11_readLine_41 rfl rfl ?_
      refine gc_X11_182 (pc' := 45) dX11_readLine_42 rfl (m_houseLine hM' (fun z => ⟨hU, hlt z, by have := l11 (T 3) (by have := hlt z; omega); omega⟩) c0) rfl (by first | rfl | assumption) (by decide) rfl (Nat.le_of_ble_eq_true rfl) (fun v9 h9 q9 => ?_)
      obtain ⟨rfl, w1, w2⟩ := q9
      show gJ _ _ _ _ _ _ _ [] _ _
      refine gj_goto (pc' := 152) dX11_readLine_45 (by decide) ?_
      refine gj_vret rfl dX11_readLine_152 ?_
      first
      | exact ⟨rfl, b1.e.tr w1, w2⟩
theorem m_readLine {h : gH} {B : Nat → Nat} {e p : Nat} {T : Nat → Nat} (hL : ML h B e p T) (hP : prL T) : gSp 10 yX11_readLine cX11_readLine 1 none [.ref 142] h (fun v h' => v = none ∧ mlE h h' ∧ MG h' B e (ptL B e T p)) := by
  have l0 := hP.2.1.1.1
  have hM : MM h B e T (0, p) := MM.at hL
  have hR : tIs B e p 0 = true → ptL B e T p = (if T 0 ≠ 0 then (3, tS B e p, fun _ => 0) else lnL1 B e T (tEn B e p)) := fun z => by
    unfold ptL
    rw [if_pos z]
    rfl
  refine gSp_of (by decide +kernel) (Nat.le_of_ble_eq_true rfl) ?_
  show gJ RX11 cX11_readLine 1 none _ 0 [some (.ref 142)] [] _ _
  refine gj_aload_n (pc' := 1) dX11_readLine_0 rfl rfl ?_
  refine gj_ldcS (pc' := 3) dX11_readLine_1 rfl (gstr_X11_122) ?_
  refine gr_X11_108 (pc' := 6) dX11_readLine_3 rfl (m_isWord (i := 0) hM (by decide)) rfl (by first | rfl | assumption) (by decide) rfl (Nat.le_of_ble_eq_true rfl) ?_
  change gJ _ _ _ _ _ _ _ [.int (zI (bI (tIs B e p 0)))] _ _
  first | refine gj_ifB_eq (pc' := 9) (tgt := 16) dX11_readLine_6 (by decide) rfl (fun c6 => ?_) (fun c6 => ?_) | refine gj_if_eq (pc' := 9) (tgt := 16) dX11_readLine_6 (by decide) rfl (by omega) (fun c6 => ?_) (fun c6 => ?_)
  · exact m_rl1 hL hP c6
  · refine gj_aload_n (pc' := 10) dX11_readLine_9 rfl rfl ?_
    refine gc_X11_175 (pc' := 13) dX11_readLine_10 rfl (m_loftLine hL l0) rfl (by first | rfl | assumption) (by decide) rfl (Nat.le_of_ble_eq_true rfl) (fun v9 h9 q9 => ?_)
    obtain ⟨rfl, w1, w2⟩ := q9
    show gJ _ _ _ _ _ _ _ [] _ _
    refine gj_goto (pc' := 152) dX11_readLine_13 (by decide) ?_
    refine gj_vret rfl dX11_readLine_152 ?_
    rw [hR c6]
    exact ⟨rfl, w1, w2⟩
