/-! PEACE: the model's rows of partners -/
def pzS (h : gH) (x : pzT) : Prop := h.1 142 24 = (x.1 : Int) ∧ h.1 142 25 = (x.2.1 : Int) ∧ ∀ i, i < 7 → h.1 151 i = x.2.2 i
def pzO (b m : Nat) (y : pzT) (co : Nat) (p : Nat → Int) : pzT := (co + y.1, y.2.1, fun i => if b ≤ i ∧ m.testBit i = true then y.2.2 i else p i)
theorem mrg_lt {x y : pzT} (h : y.1 < x.1) : mrg x y = y := if_pos h
theorem mrg_eq {x y : pzT} (h : y.1 = x.1) : mrg x y = (x.1, x.2.1 + y.2.1, x.2.2) := by
  unfold mrg
  rw [if_neg (by omega), if_pos h]
theorem mrg_gt {x y : pzT} (h : x.1 < y.1) : mrg x y = x := by
  unfold mrg
  rw [if_neg (by omega), if_neg (by omega)]
theorem mrg_as (x u v : pzT) : mrg (mrg x u) v = mrg x (mrg u v) := by
  rcases Nat.lt_trichotomy u.1 x.1 with a | a | a
  · rw [mrg_lt a, mrg_lt (Nat.lt_of_le_of_lt mrg_le a)]
  · rcases Nat.lt_trichotomy v.1 u.1 with b | b | b
    · rw [mrg_lt b, mrg_lt (Nat.lt_of_lt_of_le b (Nat.le_of_eq a)), mrg_eq a, mrg_lt (x := (x.1, x.2.1 + u.2.1, x.2.2)) (show v.1 < x.1 by omega)]
    · rw [mrg_eq a, mrg_eq b, mrg_eq (x := (x.1, x.2.1 + u.2.1, x.2.2)) (show v.1 = x.1 by omega), mrg_eq (y := (u.1, u.2.1 + v.2.1, u.2.2)) (show u.1 = x.1 by omega)]
      show (x.1, x.2.1 + u.2.1 + v.2.1, x.2.2) = (x.1, x.2.1 + (u.2.1 + v.2.1), x.2.2)
      rw [Nat.add_assoc]
    · rw [mrg_gt b, mrg_eq a, mrg_gt (x := (x.1, x.2.1 + u.2.1, x.2.2)) (show x.1 < v.1 by omega)]
  · rw [mrg_gt a]
    rcases Nat.lt_trichotomy v.1 u.1 with b | b | b
    · rw [mrg_lt b]
    · rw [mrg_eq b, mrg_gt (show x.1 < v.1 by omega), mrg_gt (y := (u.1, u.2.1 + v.2.1, u.2.2)) (show x.1 < u.1 by omega)]
    · rw [mrg_gt b, mrg_gt (show x.1 < v.1 by omega), mrg_gt a]
theorem pzO_mrg (b m co : Nat) (p : Nat → Int) (u v : pzT) : pzO b m (mrg u v) co p = mrg (pzO b m u co p) (pzO b m v co p) := by
  rcases Nat.lt_trichotomy v.1 u.1 with a | a | a
  · rw [mrg_lt a, mrg_lt (show co + v.1 < co + u.1 by omega)]
  · rw [mrg_eq a, mrg_eq (show co + v.1 = co + u.1 by omega)]
    rfl
  · rw [mrg_gt a, mrg_gt (show co + u.1 < co + v.1 by omega)]
theorem pzS_cg {h : gH} {x u v : pzT} (hs : pzS h (mrg x u)) (e1 : u.1 = v.1) (e2 : u.2.1 = v.2.1) (e3 : ∀ i, i < 7 → u.2.2 i = v.2.2 i) : pzS h (mrg x v) := by
  obtain ⟨u1, u2, u3⟩ := u
  obtain ⟨v1, v2, v3⟩ := v
  simp only at e1 e2 e3
  subst e1
  subst e2
  obtain ⟨a, b, c⟩ := hs
  unfold mrg at a b c ⊢
  simp only at a b c ⊢
  by_cases q : u1 < x.1
  · rw [if_pos q] at a b ⊢
    refine ⟨a, b, fun i hi => ?_⟩
    have := c i hi
    rw [if_pos q] at this
    exact this.trans (e3 i hi)
  · rw [if_neg q] at a b ⊢
    by_cases z : u1 = x.1
    · rw [if_pos z] at a b ⊢
      refine ⟨a, b, fun i hi => ?_⟩
      have := c i hi
      rw [if_neg q, if_pos z] at this
      exact this
    · rw [if_neg z] at a b ⊢
      refine ⟨a, b, fun i hi => ?_⟩
      have := c i hi
      rw [if_neg q, if_neg z] at this
      exact this
theorem pzm_bit {T S : Nat → Nat} (P : Nat) {i : Nat} (hi : i < T 4) : (nWo (nPr T S) P).testBit i = (!sGone S i && !P.testBit i) := by
  rw [nWo_bit]
  unfold nPr
  rw [nPr_bit hi]
theorem pzm_far {T S : Nat → Nat} (P : Nat) {i : Nat} (hi : T 4 ≤ i) : (nWo (nPr T S) P).testBit i = false := by
  rw [nWo_bit, testBit_lt (nPr_lt2 (T := T) (S := S)) hi]
  rfl
theorem sPair_ng {T S : Nat → Nat} {b c : Nat} (h : sPair T S b c = true) : sGone S c = false := by
  unfold sPair at h
  simp only [Bool.and_eq_true, Bool.not_eq_true'] at h
  exact h.1.1.2
theorem m_tryPeace {T S : Nat → Nat} (hT : TV T) (hS : SV T S) : ∀ (j : Nat), j ≤ T 4 → ∀ (h : gH) (P co : Nat) (x : pzT), MA h T S → P < 128 → co ≤ 120 * (T 4 - j) → x.1 ≤ 1000000 → pzS h x → gSp (6 + j) yX11_tryPeace cX11_tryPeace 5 none [.ref 142, .int (zI ((T 4 - j : Nat) : Int)), .int (zI (P : Int)), .int (zI (co : Int))] h (fun v h' => v = none ∧ h'.2 = h.2 ∧ (∀ o, o ≠ 142 → o ≠ 150 → o ≠ 151 → h'.1 o = h.1 o) ∧ (∀ k, k ≠ 24 → k ≠ 25 → h'.1 142 k = h.1 142 k) ∧ (∀ i, i < 7 → ¬ (T 4 - j ≤ i ∧ (nWo (nPr T S) P).testBit i = true) → h'.1 150 i = h.1 150 i) ∧ pzS h' (mrg x (pzO (T 4 - j) (nWo (nPr T S) P) (pz T S j (nWo (nPr T S) P)) co (h.1 150)))) := by
  have h4 : T 4 ≤ 7 := hT.2.2.2.2.1
  have g19 := sv19 hT hS
  intro j
  induction j with
  | zero =>
    intro hj h P co x hA hP hco hx hs
    obtain ⟨x1, x2, x3⟩ := x
    obtain ⟨p1, p2, p3⟩ := id hs
    simp only at hx p1 p2 p3
    have hmr : ∀ h' : gH, pzS h' (mrg (x1, x2, x3) (co, 1, h.1 150)) → pzS h' (mrg (x1, x2, x3) (pzO (T 4 - 0) (nWo (nPr T S) P) (pz T S 0 (nWo (nPr T S) P)) co (h.1 150))) := fun h' q => pzS_cg q rfl rfl (fun i hi => by
      show h.1 150 i = (if T 4 - 0 ≤ i ∧ (nWo (nPr T S) P).testBit i = true then _ else h.1 150 i)
      rw [if_neg]
      intro z
      rw [pzm_far P (by omega)] at z
      exact absurd z.2 Bool.false_ne_true)
    have hw4 : h.1 145 4 = (T 4 : Int) := hA.1 4 (by decide)
    refine gSp_of (by decide +kernel) (Nat.le_of_ble_eq_true rfl) ?_
    show gJ RX11 cX11_tryPeace 5 none _ 0 [some (.ref 142), some (.int (zI ((T 4 - 0 : Nat) : Int))), some (.int (zI (P : Int))), some (.int (zI (co : Int))), none] [] _ _
    refine gj_iload_n (pc' := 1) dX11_tryPeace_0 rfl rfl ?_
    refine gj_aload_n (pc' := 2) dX11_tryPeace_1 rfl rfl ?_
    refine gf_X11_20 (pc' := 5) dX11_tryPeace_2 rfl (by first | rfl | assumption) rfl ?_
    refine gj_iconst (pc' := 6) dX11_tryPeace_5 rfl ?_
    refine gj_iald (pc' := 7) (j := 4) (by first | rfl | assumption) (by omega) (by omega) (by decide) dX11_tryPeace_6 rfl ?_
    rw [hw4]
    refine gj_icmp_ne (pc' := 10) (tgt := 77) dX11_tryPeace_7 (by decide) rfl (by omega) (fun c7 => ?_) (fun c7 => ?_)
    · exfalso; omega
    · refine gj_aload_n (pc' := 11) dX11_tryPeace_10 rfl rfl ?_
      refine gj_iload_n (pc' := 12) dX11_tryPeace_11 rfl rfl ?_
      refine gj_aload_n (pc' := 13) dX11_tryPeace_12 rfl rfl ?_
      refine gf_X11_317 (pc' := 16) dX11_tryPeace_13 rfl (by first | rfl | assumption) rfl ?_
      rw [p1]
      refine gj_icmp_ge (pc' := 19) (tgt := 23) dX11_tryPeace_16 (by decide) rfl (by omega) (fun c16 => ?_) (fun c16 => ?_)
      · refine gj_iload_n (pc' := 24) dX11_tryPeace_23 rfl rfl ?_
        refine gj_aload_n (pc' := 25) dX11_tryPeace_24 rfl rfl ?_
        refine gf_X11_317 (pc' := 28) dX11_tryPeace_25 rfl (by first | rfl | assumption) rfl ?_
        rw [p1]
        refine gj_icmp_ne (pc' := 31) (tgt := 40) dX11_tryPeace_28 (by decide) rfl (by omega) (fun c28 => ?_) (fun c28 => ?_)
        · refine gj_aload_n (pc' := 41) dX11_tryPeace_40 rfl rfl ?_
          refine gf_X11_320 (pc' := 44) dX11_tryPeace_41 rfl (by first | rfl | assumption) rfl ?_
          rw [p2]
          refine gp_X11_320 (pc' := 47) dX11_tryPeace_44 rfl (by first | rfl | assumption) rfl ?_
          refine gj_iload_n (pc' := 48) dX11_tryPeace_47 rfl rfl ?_
          refine gj_aload_n (pc' := 49) dX11_tryPeace_48 rfl rfl ?_
          refine gf_X11_317 (pc' := 52) dX11_tryPeace_49 rfl (by first | rfl | assumption) rfl ?_
          rw [gui_s, up1_n (by decide), p1]
          refine gj_icmp_lt (pc' := 55) (tgt := 56) dX11_tryPeace_52 (by decide) rfl (by omega) (fun c52 => ?_) (fun c52 => ?_)
          · exfalso; omega
          · refine gj_vret rfl dX11_tryPeace_55 ?_
            refine ⟨rfl, rfl, fun o o1 o2 o3 => gui_n o1, fun k k1 k2 => ?_, fun i _ _ => ?_, hmr _ ?_⟩
            · rw [gui_s, up1_n k2]
            · rw [gui_n (by decide)]
            · unfold mrg
              rw [if_neg (show ¬ co < x1 by omega)]
              first
              | (rw [if_pos (show co = x1 by omega)]
                 exact ⟨by rw [gui_s, up1_n (by decide)]; exact p1, by rw [gui_s, up1_s]; show (x2 : Int) + 1 = ((x2 + 1 : Nat) : Int); omega, fun i hi => by rw [gui_n (by decide)]; exact p3 i hi⟩)
              | (rw [if_neg (show ¬ co = x1 by omega)]
                 exact ⟨by rw [gui_s, up1_n (by decide)]; exact p1, by rw [gui_s, up1_s], fun i hi => by rw [gui_n (by decide)]; exact p3 i hi⟩)
        · refine gj_aload_n (pc' := 32) dX11_tryPeace_31 rfl rfl ?_
          refine gf_X11_320 (pc' := 35) dX11_tryPeace_32 rfl (by first | rfl | assumption) rfl ?_
          rw [p2]
          refine gj_iconst (pc' := 36) dX11_tryPeace_35 rfl ?_
          refine gj_iadd (pc' := 37) dX11_tryPeace_36 rfl ?_
          refine gj_goto (pc' := 44) dX11_tryPeace_37 (by decide) ?_
          refine gp_X11_320 (pc' := 47) dX11_tryPeace_44 rfl (by first | rfl | assumption) rfl ?_
          refine gj_iload_n (pc' := 48) dX11_tryPeace_47 rfl rfl ?_
          refine gj_aload_n (pc' := 49) dX11_tryPeace_48 rfl rfl ?_
          refine gf_X11_317 (pc' := 52) dX11_tryPeace_49 rfl (by first | rfl | assumption) rfl ?_
          rw [gui_s, up1_n (by decide), p1]
          refine gj_icmp_lt (pc' := 55) (tgt := 56) dX11_tryPeace_52 (by decide) rfl (by omega) (fun c52 => ?_) (fun c52 => ?_)
          · exfalso; omega
          · refine gj_vret rfl dX11_tryPeace_55 ?_
            refine ⟨rfl, rfl, fun o o1 o2 o3 => gui_n o1, fun k k1 k2 => ?_, fun i _ _ => ?_, hmr _ ?_⟩
            · rw [gui_s, up1_n k2]
            · rw [gui_n (by decide)]
            · unfold mrg
              rw [if_neg (show ¬ co < x1 by omega)]
              first
              | (rw [if_pos (show co = x1 by omega)]
                 exact ⟨by rw [gui_s, up1_n (by decide)]; exact p1, by rw [gui_s, up1_s]; show (x2 : Int) + 1 = ((x2 + 1 : Nat) : Int); omega, fun i hi => by rw [gui_n (by decide)]; exact p3 i hi⟩)
              | (rw [if_neg (show ¬ co = x1 by omega)]
                 exact ⟨by rw [gui_s, up1_n (by decide)]; exact p1, by rw [gui_s, up1_s], fun i hi => by rw [gui_n (by decide)]; exact p3 i hi⟩)
      · refine gj_iconst (pc' := 20) dX11_tryPeace_19 rfl ?_
        refine gj_goto (pc' := 44) dX11_tryPeace_20 (by decide) ?_
        refine gp_X11_320 (pc' := 47) dX11_tryPeace_44 rfl (by first | rfl | assumption) rfl ?_
        refine gj_iload_n (pc' := 48) dX11_tryPeace_47 rfl rfl ?_
        refine gj_aload_n (pc' := 49) dX11_tryPeace_48 rfl rfl ?_
        refine gf_X11_317 (pc' := 52) dX11_tryPeace_49 rfl (by first | rfl | assumption) rfl ?_
        rw [gui_s, up1_n (by decide), p1]
        refine gj_icmp_lt (pc' := 55) (tgt := 56) dX11_tryPeace_52 (by decide) rfl (by omega) (fun c52 => ?_) (fun c52 => ?_)
        · refine gj_aload_n (pc' := 57) dX11_tryPeace_56 rfl rfl ?_
          refine gj_iload_n (pc' := 58) dX11_tryPeace_57 rfl rfl ?_
          refine gp_X11_317 (pc' := 61) dX11_tryPeace_58 rfl (by first | rfl | assumption) rfl ?_
          refine gj_aload_n (pc' := 62) dX11_tryPeace_61 rfl rfl ?_
          refine gf_X11_35 (pc' := 65) dX11_tryPeace_62 rfl (by first | rfl | assumption) rfl ?_
          refine gj_iconst (pc' := 66) dX11_tryPeace_65 rfl ?_
          refine gj_aload_n (pc' := 67) dX11_tryPeace_66 rfl rfl ?_
          refine gf_X11_38 (pc' := 70) dX11_tryPeace_67 rfl (by first | rfl | assumption) rfl ?_
          refine gj_iconst (pc' := 71) dX11_tryPeace_70 rfl ?_
          refine gj_bipush (pc' := 73) dX11_tryPeace_71 rfl (by decide) ?_
          refine gc_X11_162 (pc' := 76) dX11_tryPeace_73 rfl (m_copy (o := 150) (p := 0) (o2 := 151) (q := 0) (n := 7) rfl rfl (by decide) (by decide) (by decide) (by decide) (by decide)) rfl (by omega) rfl (Nat.le_of_ble_eq_true rfl) (fun v9 h9 q9 => ?_)
          obtain ⟨rfl, q0, q1, q2⟩ := q9
          show gJ _ _ _ _ _ _ _ [] _ _
          refine gj_vret rfl dX11_tryPeace_76 ?_
          refine ⟨rfl, q0, fun o o1 o2 o3 => (q1 o o3).trans ((gui_n o1).trans (gui_n o1)), fun k k1 k2 => ?_, fun i _ _ => ?_, hmr _ ?_⟩
          · rw [q1 142 (by decide), gui_s, up1_n k1, gui_s, up1_n k2]
          · rw [q1 150 (by decide), gui_n (by decide), gui_n (by decide)]
          · unfold mrg
            rw [if_pos (show co < x1 by omega)]
            refine ⟨?_, ?_, fun i hi => ?_⟩
            · rw [q1 142 (by decide), gui_s, up1_s]
            · rw [q1 142 (by decide), gui_s, up1_n (by decide), gui_s, up1_s]; rfl
            · rw [q2, if_pos (by omega), gui_n (by decide), gui_n (by decide), show 0 + (i - 0) = i by omega]
        · exfalso; omega
  | succ j ih =>
    intro hj h P co x hA hP hco hx hs
    have ih := ih (by omega)
    have hw4 : h.1 145 4 = (T 4 : Int) := hA.1 4 (by decide)
    obtain ⟨b, hb⟩ : ∃ b, b = T 4 - (j + 1) := ⟨_, rfl⟩
    have hbj : T 4 - j = b + 1 := by omega
    have hb4 : b < T 4 := by omega
    have hM : MI h T S := ⟨hA, hT, hS⟩
    have hmb := pzm_bit (T := T) (S := S) P hb4
    have hpz : pz T S (j + 1) (nWo (nPr T S) P) = (if (nWo (nPr T S) P).testBit (T 4 - (j + 1)) = true then pzL T S (T 4 - (j + 1)) (nWo (nPr T S) P) (pz T S j) (T 4) else pz T S j (nWo (nPr T S) P)) := rfl
    have hps := pzL_s T S b (nWo (nPr T S) P) (pz T S j)
    have hplo := pzL_lo (T := T) (S := S) (b := b) (m := nWo (nPr T S) P) (f := pz T S j) (b + 1) (Nat.le_refl _)
    have hext := fun m m' => pz_ext (T := T) (S := S) j m m' (by omega)
    rw [← hb] at hpz ⊢
    rw [hbj] at ih hext
    have hlb := tLe_le (S := S) hT hb4
    refine gSp_of (by decide +kernel) (Nat.le_of_ble_eq_true rfl) ?_
    show gJ RX11 cX11_tryPeace 5 none _ 0 [some (.ref 142), some (.int (zI (b : Int))), some (.int (zI (P : Int))), some (.int (zI (co : Int))), none] [] _ _
    refine gj_iload_n (pc' := 1) dX11_tryPeace_0 rfl rfl ?_
    refine gj_aload_n (pc' := 2) dX11_tryPeace_1 rfl rfl ?_
    refine gf_X11_20 (pc' := 5) dX11_tryPeace_2 rfl (by first | rfl | assumption) rfl ?_
    refine gj_iconst (pc' := 6) dX11_tryPeace_5 rfl ?_
    refine gj_iald (pc' := 7) (j := 4) (by first | rfl | assumption) (by omega) (by omega) (by decide) dX11_tryPeace_6 rfl ?_
    rw [hw4]
    refine gj_icmp_ne (pc' := 10) (tgt := 77) dX11_tryPeace_7 (by decide) rfl (by omega) (fun c7 => ?_) (fun c7 => ?_)
    · refine gj_aload_n (pc' := 78) dX11_tryPeace_77 rfl rfl ?_
      refine gj_iload_n (pc' := 79) dX11_tryPeace_78 rfl rfl ?_
      refine gr_X11_262 (pc' := 82) dX11_tryPeace_79 rfl (m_isGone hA g19 (by omega)) rfl (by first | rfl | assumption) (by omega) rfl (Nat.le_of_ble_eq_true rfl) ?_
      first | refine gj_ifB_ne (pc' := 85) (tgt := 93) dX11_tryPeace_82 (by decide) rfl (fun c82 => ?_) (fun c82 => ?_) | refine gj_if_ne (pc' := 85) (tgt := 93) dX11_tryPeace_82 (by decide) rfl (by omega) (fun c82 => ?_) (fun c82 => ?_)
      · refine gj_aload_n (pc' := 94) dX11_tryPeace_93 rfl rfl ?_
        refine gj_iload_n (pc' := 95) dX11_tryPeace_94 rfl rfl ?_
        refine gj_iconst (pc' := 96) dX11_tryPeace_95 rfl ?_
        refine gj_iadd (pc' := 97) dX11_tryPeace_96 rfl ?_
        rw [show (b : Int) + 1 = ((b + 1 : Nat) : Int) by omega]
        refine gj_iload_n (pc' := 98) dX11_tryPeace_97 rfl rfl ?_
        refine gj_iload_n (pc' := 99) dX11_tryPeace_98 rfl rfl ?_
        refine gc_X11_323 (pc' := 102) dX11_tryPeace_99 rfl (ih h P co x hA hP (by omega) hx hs) rfl (by first | rfl | assumption) (by omega) rfl (Nat.le_of_ble_eq_true rfl) (fun v9 h9 q9 => ?_)
        obtain ⟨rfl, q0, q1, q2, q3, q4⟩ := q9
        show gJ _ _ _ _ _ _ _ [] _ _
        refine gj_vret rfl dX11_tryPeace_102 ?_
        have hmf : (nWo (nPr T S) P).testBit b = false := by
          rw [hmb]
          first
          | (rw [c82]; rfl)
          | (rw [c90]; simp)
        rw [hpz, if_neg (by rw [hmf]; decide)]
        refine ⟨rfl, q0, q1, q2, fun i i1 i2 => q3 i i1 (fun z => i2 ⟨by omega, z.2⟩), pzS_cg q4 rfl rfl (fun i hi => ?_)⟩
        show (if b + 1 ≤ i ∧ (nWo (nPr T S) P).testBit i = true then _ else h.1 150 i) = (if b ≤ i ∧ (nWo (nPr T S) P).testBit i = true then _ else h.1 150 i)
        by_cases q : b = i
        · rw [if_neg (by omega), if_neg (by rw [← q, hmf]; simp)]
        · by_cases z : b ≤ i ∧ (nWo (nPr T S) P).testBit i = true
          · rw [if_pos z, if_pos ⟨by omega, z.2⟩]
          · rw [if_neg z, if_neg (fun y => z ⟨by omega, y.2⟩)]
      · refine gj_iload_n (pc' := 86) dX11_tryPeace_85 rfl rfl ?_
        refine gj_iload_n (pc' := 87) dX11_tryPeace_86 rfl rfl ?_
        refine gr_X11_252 (pc' := 90) dX11_tryPeace_87 rfl (m_hasBit (by omega) (by omega)) rfl (by omega) rfl (Nat.le_of_ble_eq_true rfl) ?_
        first | refine gj_ifB_eq (pc' := 93) (tgt := 103) dX11_tryPeace_90 (by decide) rfl (fun c90 => ?_) (fun c90 => ?_) | refine gj_if_eq (pc' := 93) (tgt := 103) dX11_tryPeace_90 (by decide) rfl (by omega) (fun c90 => ?_) (fun c90 => ?_)
        · have hmt : (nWo (nPr T S) P).testBit b = true := by rw [hmb, c82, c90]; rfl
          rw [hpz, if_pos hmt]
          generalize hm : nWo (nPr T S) P = m at hmb hpz hps hplo hmt ⊢
          refine gj_aload_n (pc' := 104) dX11_tryPeace_103 rfl rfl ?_
          refine gf_X11_35 (pc' := 107) dX11_tryPeace_104 rfl (by first | rfl | assumption) rfl ?_
          refine gj_iload_n (pc' := 108) dX11_tryPeace_107 rfl rfl ?_
          refine gj_bipush (pc' := 110) dX11_tryPeace_108 rfl (by decide) ?_
          refine gj_iast (pc' := 111) (j := b) (by first | rfl | assumption) (by omega) (by omega) (by decide) dX11_tryPeace_110 rfl ?_
          refine gj_aload_n (pc' := 112) dX11_tryPeace_111 rfl rfl ?_
          refine gj_iload_n (pc' := 113) dX11_tryPeace_112 rfl rfl ?_
          refine gj_iconst (pc' := 114) dX11_tryPeace_113 rfl ?_
          refine gj_iadd (pc' := 115) dX11_tryPeace_114 rfl ?_
          rw [show (b : Int) + 1 = ((b + 1 : Nat) : Int) by omega]
          refine gj_iload_n (pc' := 116) dX11_tryPeace_115 rfl rfl ?_
          refine gj_iload_n (pc' := 117) dX11_tryPeace_116 rfl rfl ?_
          refine gj_aload_n (pc' := 118) dX11_tryPeace_117 rfl rfl ?_
          refine gj_iload_n (pc' := 119) dX11_tryPeace_118 rfl rfl ?_
          refine gr_X11_274 (pc' := 122) dX11_tryPeace_119 rfl (m_leftOf (hM.nt (gui_n (by decide)) (gui_n (by decide))) hb4) rfl (by first | rfl | assumption) (by omega) rfl (Nat.le_of_ble_eq_true rfl) ?_
          refine gj_iadd (pc' := 123) dX11_tryPeace_122 rfl ?_
          rw [show (co : Int) + (tLe T S b : Int) = ((co + tLe T S b : Nat) : Int) by omega]
          refine gc_X11_323 (pc' := 126) dX11_tryPeace_123 rfl (ih _ P (co + tLe T S b) x (hM.nt (gui_n (by decide)) (gui_n (by decide))).1 hP (by omega) hx hs) rfl (by first | rfl | assumption) (by omega) rfl (Nat.le_of_ble_eq_true rfl) (fun v9 h9 q9 => ?_)
          rw [hm] at q9
          obtain ⟨rfl, q0, q1, q2, q3, q4⟩ := q9
          obtain ⟨hd, rfl⟩ : ∃ x, x = h9 := ⟨h9, rfl⟩
          have g150 : (gui h 150 b (-2)).1 150 = up1 (h.1 150) b (-2) := gui_s
          rw [g150] at q3 q4
          show gJ _ _ _ _ _ _ _ [] _ _
          refine gj_iload_n (pc' := 127) dX11_tryPeace_126 rfl rfl ?_
          refine gj_iconst (pc' := 128) dX11_tryPeace_127 rfl ?_
          refine gj_iadd (pc' := 129) dX11_tryPeace_128 rfl ?_
          refine gj_istore (pc' := 131) dX11_tryPeace_129 rfl (by decide) ?_
          refine gJ_wk (gJ_fH0 (L := fun c  => [some (.ref 142), some (.int (zI (b : Int))), some (.int (zI (P : Int))), some (.int (zI (co : Int))), some (.int (zI (c : Int)))]) (I := fun c  hp => b < c ∧ hp.2 = h.2 ∧ (∀ o, o ≠ 142 → o ≠ 150 → o ≠ 151 → hp.1 o = h.1 o) ∧ (∀ k, k ≠ 24 → k ≠ 25 → hp.1 142 k = h.1 142 k) ∧ (∀ i, i < 7 → ¬ (b ≤ i ∧ m.testBit i = true) → hp.1 150 i = h.1 150 i) ∧ pzS hp (mrg x (pzO b m (pzL T S b m (pz T S j) c) co (h.1 150)))) (T 4) (fun c  hp hb_c iv_c ih_c => ?step_1) (b + 1) (by omega)  _ ?iv0_1) ?ll0_1
          case ll0_1 =>
            repeat' (first | exact True.intro | with_reducible exact rfl | refine And.intro ?_ ?_ | refine vI ?_ | refine vL ?_)
            all_goals first | rfl | omega
          case iv0_1 =>
            refine ⟨by omega, q0, fun o o1 o2 o3 => (q1 o o1 o2 o3).trans (gui_n o2), fun k k1 k2 => (q2 k k1 k2).trans (by rw [gui_n (by decide)]), fun i hi z => ?_, ?_⟩
            · have hbi : i ≠ b := fun q => z ⟨by omega, by rw [q]; exact hmt⟩
              rw [q3 i hi (fun y => z ⟨by omega, y.2⟩), up1_n hbi]
            · rw [hplo]
              refine pzS_cg q4 ?_ ?_ (fun i hi => ?_)
              · show co + tLe T S b + (pz T S j m).1 = co + (tLe T S b + (pz T S j (nWo m (2 ^ b))).1)
                rw [hext m (nWo m (2 ^ b)) (fun i i1 i2 => by rw [nWo_bit, Nat.testBit_two_pow, decide_eq_false (by omega)]; simp)]
                omega
              · show (pz T S j m).2.1 = (pz T S j (nWo m (2 ^ b))).2.1
                rw [hext m (nWo m (2 ^ b)) (fun i i1 i2 => by rw [nWo_bit, Nat.testBit_two_pow, decide_eq_false (by omega)]; simp)]
              · show (if b + 1 ≤ i ∧ m.testBit i = true then (pz T S j m).2.2 i else up1 (h.1 150) b (-2) i) = (if b ≤ i ∧ m.testBit i = true then (if i = b then (-2 : Int) else (pz T S j (nWo m (2 ^ b))).2.2 i) else h.1 150 i)
                rw [hext m (nWo m (2 ^ b)) (fun i i1 i2 => by rw [nWo_bit, Nat.testBit_two_pow, decide_eq_false (by omega)]; simp)]
                by_cases q : i = b
                · rw [if_neg (by omega), if_pos ⟨by omega, by rw [q]; exact hmt⟩, if_pos q, q, up1_s]
                · rw [up1_n q]
                  by_cases z : b ≤ i ∧ m.testBit i = true
                  · rw [if_pos z, if_pos ⟨by omega, z.2⟩, if_neg q]
                  · rw [if_neg z, if_neg (fun y => z ⟨by omega, y.2⟩)]
          obtain ⟨i1, i2, i3, i4, i5, i6⟩ := iv_c
          have hM2 : MI hp T S := hM.nt (i3 145 (by decide) (by decide) (by decide)) (i3 147 (by decide) (by decide) (by decide))
          have hA2 := hM2.1
          have es := hps c
          have hE : c < T 4 → pzE T S b m c = (!P.testBit c && sPair T S b c) := fun hc => by
            unfold pzE
            rw [← hm, pzm_bit P hc, decide_eq_true i1]
            cases hg : sPair T S b c with
            | false => simp
            | true => rw [sPair_ng hg]; simp
          have hc128 : 2 ^ c ≤ 128 := Nat.pow_le_pow_right (n := 2) (by omega) (show c ≤ 7 by omega)
          refine gj_iload (pc' := 133) dX11_tryPeace_131 rfl rfl ?_
          refine gj_aload_n (pc' := 134) dX11_tryPeace_133 rfl rfl ?_
          refine gf_X11_20 (pc' := 137) dX11_tryPeace_134 rfl (by first | rfl | assumption) rfl ?_
          refine gj_iconst (pc' := 138) dX11_tryPeace_137 rfl ?_
          refine gj_iald (pc' := 139) (j := 4) (by first | rfl | assumption) (by omega) (by omega) (by decide) dX11_tryPeace_138 rfl ?_
          rw [hA2.1 4 (by decide)]
          refine gj_icmp_ge (pc' := 142) (tgt := 208) dX11_tryPeace_139 (by decide) rfl (by omega) (fun c139 => ?_) (fun c139 => ?_)
          · refine gj_vret rfl dX11_tryPeace_208 ?_
            rw [show T 4 = c by omega]
            exact ⟨rfl, i2, i3, i4, i5, i6⟩
          · refine gj_iload_n (pc' := 143) dX11_tryPeace_142 rfl rfl ?_
            refine gj_iload (pc' := 145) dX11_tryPeace_143 rfl rfl ?_
            refine gr_X11_252 (pc' := 148) dX11_tryPeace_145 rfl (m_hasBit (by omega) (by omega)) rfl (by omega) rfl (Nat.le_of_ble_eq_true rfl) ?_
            first | refine gj_ifB_ne (pc' := 151) (tgt := 202) dX11_tryPeace_148 (by decide) rfl (fun c148 => ?_) (fun c148 => ?_) | refine gj_if_ne (pc' := 151) (tgt := 202) dX11_tryPeace_148 (by decide) rfl (by omega) (fun c148 => ?_) (fun c148 => ?_)
            · refine gj_iinc (pc' := 205) dX11_tryPeace_202 rfl rfl (by decide) ?_
              refine gj_goto (pc' := 131) dX11_tryPeace_205 (by decide) ?_
              refine gJ_wk (ih_c  _ (by omega) ?iv_2) ?ll_2
              case ll_2 =>
                repeat' (first | exact True.intro | with_reducible exact rfl | refine And.intro ?_ ?_ | refine vI ?_ | refine vL ?_)
                all_goals omega
              first
              | (rw [es, hE (by omega), c148, Bool.not_true, Bool.false_and, if_neg Bool.false_ne_true]; exact ⟨by omega, i2, i3, i4, i5, i6⟩)
              | (rw [es, hE (by omega), c148, c158, Bool.and_false, if_neg Bool.false_ne_true]; exact ⟨by omega, i2, i3, i4, i5, i6⟩)
              | (rw [es, hE (by omega), c148, c158, Bool.not_false, Bool.and_true, if_pos rfl]
                 have hmc : ∀ i, (nWo (nPr T S) (P ||| 2 ^ c)).testBit i = (m.testBit i && !decide (c = i)) := fun i => by
                   rw [← hm, nWo_bit, nWo_bit, Nat.testBit_or, Nat.testBit_two_pow]
                   cases (nPr T S).testBit i <;> cases P.testBit i <;> simp
                 have hmct : m.testBit c = true := by
                   rw [← hm, pzm_bit P (by omega), sPair_ng c158, c148]
                   rfl
                 have hxx : pz T S j (nWo (nPr T S) (P ||| 2 ^ c)) = pz T S j (nWo (nWo m (2 ^ b)) (2 ^ c)) := hext _ _ (fun i z1 z2 => by
                   rw [hmc, nWo_bit, nWo_bit, Nat.testBit_two_pow, Nat.testBit_two_pow, decide_eq_false (show ¬ b = i by omega)]
                   simp)
                 rw [hxx] at u4
                 refine ⟨by omega, u0.trans i2, fun o o1 o2 o3 => (u1 o o1 o2 o3).trans ((gui_n o2).trans ((gui_n o2).trans (i3 o o1 o2 o3))), fun k k1 k2 => (u2 k k1 k2).trans ?_, fun i hi z => ?_, ?_⟩
                 · rw [gui_n (by decide), gui_n (by decide)]
                   exact i4 k k1 k2
                 · have hbi : i ≠ b := fun q => z ⟨by omega, by rw [q]; exact hmt⟩
                   have hci : i ≠ c := fun q => z ⟨by omega, by rw [q]; exact hmct⟩
                   rw [u3 i hi (fun y => z ⟨by omega, by have y2 := y.2; rw [hmc, decide_eq_false (fun q => hci q.symm)] at y2; simpa using y2⟩), up1_n hci, up1_n hbi]
                   exact i5 i hi z
                 · rw [pzO_mrg, ← mrg_as]
                   refine pzS_cg u4 ?_ rfl (fun i hi => ?_)
                   · show co + nD (tLe T S b) (tLe T S c) + (pz T S j (nWo (nWo m (2 ^ b)) (2 ^ c))).1 = co + (nD (tLe T S b) (tLe T S c) + (pz T S j (nWo (nWo m (2 ^ b)) (2 ^ c))).1)
                     omega
                   · show (if b + 1 ≤ i ∧ (nWo (nPr T S) (P ||| 2 ^ c)).testBit i = true then _ else up1 (up1 (hp.1 150) b (c : Int)) c (b : Int) i) = (if b ≤ i ∧ m.testBit i = true then (if i = b then (c : Int) else if i = c then (b : Int) else _) else h.1 150 i)
                     rw [hmc]
                     by_cases q : i = b
                     · rw [if_neg (by omega), if_pos ⟨by omega, by rw [q]; exact hmt⟩, if_pos q, up1_n (by omega), q, up1_s]
                     · by_cases q2 : i = c
                       · rw [decide_eq_true q2.symm, if_neg (by simp), if_pos ⟨by omega, by rw [q2]; exact hmct⟩, if_neg q, if_pos q2, q2, up1_s]
                       · rw [decide_eq_false (fun z => q2 z.symm), Bool.not_false, Bool.and_true, up1_n q2, up1_n q, if_neg q, if_neg q2]
                         by_cases z : b ≤ i ∧ m.testBit i = true
                         · rw [if_pos z, if_pos ⟨by omega, z.2⟩]
                         · rw [if_neg z, if_neg (fun y => z ⟨by omega, y.2⟩)]
                           exact i5 i hi z)
            · refine gj_aload_n (pc' := 152) dX11_tryPeace_151 rfl rfl ?_
              refine gj_iload_n (pc' := 153) dX11_tryPeace_152 rfl rfl ?_
              refine gj_iload (pc' := 155) dX11_tryPeace_153 rfl rfl ?_
              refine gr_X11_305 (pc' := 158) dX11_tryPeace_155 rfl (m_canMeet hM2 hb4 (by omega)) rfl (by first | rfl | assumption) (by omega) rfl (Nat.le_of_ble_eq_true rfl) ?_
              first | refine gj_ifB_ne (pc' := 161) (tgt := 164) dX11_tryPeace_158 (by decide) rfl (fun c158 => ?_) (fun c158 => ?_) | refine gj_if_ne (pc' := 161) (tgt := 164) dX11_tryPeace_158 (by decide) rfl (by omega) (fun c158 => ?_) (fun c158 => ?_)
              · refine gj_aload_n (pc' := 165) dX11_tryPeace_164 rfl rfl ?_
                refine gf_X11_35 (pc' := 168) dX11_tryPeace_165 rfl (by first | rfl | assumption) rfl ?_
                refine gj_iload_n (pc' := 169) dX11_tryPeace_168 rfl rfl ?_
                refine gj_iload (pc' := 171) dX11_tryPeace_169 rfl rfl ?_
                refine gj_iast (pc' := 172) (j := b) (by first | rfl | assumption) (by omega) (by omega) (by decide) dX11_tryPeace_171 rfl ?_
                refine gj_aload_n (pc' := 173) dX11_tryPeace_172 rfl rfl ?_
                refine gf_X11_35 (pc' := 176) dX11_tryPeace_173 rfl (by first | rfl | assumption) rfl ?_
                refine gj_iload (pc' := 178) dX11_tryPeace_176 rfl rfl ?_
                refine gj_iload_n (pc' := 179) dX11_tryPeace_178 rfl rfl ?_
                refine gj_iast (pc' := 180) (j := c) (by first | rfl | assumption) (by omega) (by omega) (by decide) dX11_tryPeace_179 rfl ?_
                have hM3 : MI (gui (gui hp 150 b (c : Int)) 150 c (b : Int)) T S := hM2.nt ((gui_n (by decide)).trans (gui_n (by decide))) ((gui_n (by decide)).trans (gui_n (by decide)))
                refine gj_aload_n (pc' := 181) dX11_tryPeace_180 rfl rfl ?_
                refine gj_iload_n (pc' := 182) dX11_tryPeace_181 rfl rfl ?_
                refine gj_iconst (pc' := 183) dX11_tryPeace_182 rfl ?_
                refine gj_iadd (pc' := 184) dX11_tryPeace_183 rfl ?_
                rw [show (b : Int) + 1 = ((b + 1 : Nat) : Int) by omega]
                refine gj_iload_n (pc' := 185) dX11_tryPeace_184 rfl rfl ?_
                refine gj_iconst (pc' := 186) dX11_tryPeace_185 rfl ?_
                refine gj_iload (pc' := 188) dX11_tryPeace_186 rfl rfl ?_
                refine gj_ishl (pc' := 189) dX11_tryPeace_188 rfl ?_
                rw [bt_shl1 (by omega)]
                refine gj_ior (pc' := 190) dX11_tryPeace_189 rfl ?_
                rw [bt_or (by omega) (by omega)]
                refine gj_iload_n (pc' := 191) dX11_tryPeace_190 rfl rfl ?_
                refine gj_aload_n (pc' := 192) dX11_tryPeace_191 rfl rfl ?_
                refine gj_iload_n (pc' := 193) dX11_tryPeace_192 rfl rfl ?_
                refine gj_iload (pc' := 195) dX11_tryPeace_193 rfl rfl ?_
                refine gr_X11_311 (pc' := 198) dX11_tryPeace_195 rfl (m_meetingOf hM3 hb4 (by omega)) rfl (by first | rfl | assumption) (by omega) rfl (Nat.le_of_ble_eq_true rfl) ?_
                have hlc := tLe_le (S := S) hT (b := c) (by omega)
                have hnd := nD_le hlb hlc
                refine gj_iadd (pc' := 199) dX11_tryPeace_198 rfl ?_
                rw [show (co : Int) + (nD (tLe T S b) (tLe T S c) : Int) = ((co + nD (tLe T S b) (tLe T S c) : Nat) : Int) by omega]
                refine gc_X11_323 (pc' := 202) dX11_tryPeace_199 rfl (ih _ (P ||| 2 ^ c) (co + nD (tLe T S b) (tLe T S c)) (mrg x (pzO b m (pzL T S b m (pz T S j) c) co (h.1 150))) hM3.1 (Nat.or_lt_two_pow (n := 7) (by omega) (by have : 2 ^ c ≤ 2 ^ 6 := Nat.pow_le_pow_right (n := 2) (by omega) (by omega); omega)) (by omega) (Nat.le_trans mrg_le hx) ⟨i6.1, i6.2.1, fun i hi => i6.2.2 i hi⟩) rfl (by first | rfl | assumption) (by omega) rfl (Nat.le_of_ble_eq_true rfl) (fun v9 h9 q9 => ?_)
                obtain ⟨rfl, u0, u1, u2, u3, u4⟩ := q9
                obtain ⟨he, rfl⟩ : ∃ x, x = h9 := ⟨h9, rfl⟩
                have g150 : (gui (gui hp 150 b (c : Int)) 150 c (b : Int)).1 150 = up1 (up1 (hp.1 150) b (c : Int)) c (b : Int) := by rw [gui_s, gui_s]
                rw [g150] at u3 u4
                show gJ _ _ _ _ _ _ _ [] _ _
                refine gj_iinc (pc' := 205) dX11_tryPeace_202 rfl rfl (by decide) ?_
                refine gj_goto (pc' := 131) dX11_tryPeace_205 (by decide) ?_
                refine gJ_wk (ih_c  _ (by omega) ?iv_3) ?ll_3
                case ll_3 =>
                  repeat' (first | exact True.intro | with_reducible exact rfl | refine And.intro ?_ ?_ | refine vI ?_ | refine vL ?_)
                  all_goals omega
                first
                | (rw [es, hE (by omega), c148, Bool.not_true, Bool.false_and, if_neg Bool.false_ne_true]; exact ⟨by omega, i2, i3, i4, i5, i6⟩)
                | (rw [es, hE (by omega), c148, c158, Bool.and_false, if_neg Bool.false_ne_true]; exact ⟨by omega, i2, i3, i4, i5, i6⟩)
                | (rw [es, hE (by omega), c148, c158, Bool.not_false, Bool.and_true, if_pos rfl]
                   have hmc : ∀ i, (nWo (nPr T S) (P ||| 2 ^ c)).testBit i = (m.testBit i && !decide (c = i)) := fun i => by
                     rw [← hm, nWo_bit, nWo_bit, Nat.testBit_or, Nat.testBit_two_pow]
                     cases (nPr T S).testBit i <;> cases P.testBit i <;> simp
                   have hmct : m.testBit c = true := by
                     rw [← hm, pzm_bit P (by omega), sPair_ng c158, c148]
                     rfl
                   have hxx : pz T S j (nWo (nPr T S) (P ||| 2 ^ c)) = pz T S j (nWo (nWo m (2 ^ b)) (2 ^ c)) := hext _ _ (fun i z1 z2 => by
                     rw [hmc, nWo_bit, nWo_bit, Nat.testBit_two_pow, Nat.testBit_two_pow, decide_eq_false (show ¬ b = i by omega)]
                     simp)
                   rw [hxx] at u4
                   refine ⟨by omega, u0.trans i2, fun o o1 o2 o3 => (u1 o o1 o2 o3).trans ((gui_n o2).trans ((gui_n o2).trans (i3 o o1 o2 o3))), fun k k1 k2 => (u2 k k1 k2).trans ?_, fun i hi z => ?_, ?_⟩
                   · rw [gui_n (by decide), gui_n (by decide)]
                     exact i4 k k1 k2
                   · have hbi : i ≠ b := fun q => z ⟨by omega, by rw [q]; exact hmt⟩
                     have hci : i ≠ c := fun q => z ⟨by omega, by rw [q]; exact hmct⟩
                     rw [u3 i hi (fun y => z ⟨by omega, by have y2 := y.2; rw [hmc, decide_eq_false (fun q => hci q.symm)] at y2; simpa using y2⟩), up1_n hci, up1_n hbi]
                     exact i5 i hi z
                   · rw [pzO_mrg, ← mrg_as]
                     refine pzS_cg u4 ?_ rfl (fun i hi => ?_)
                     · show co + nD (tLe T S b) (tLe T S c) + (pz T S j (nWo (nWo m (2 ^ b)) (2 ^ c))).1 = co + (nD (tLe T S b) (tLe T S c) + (pz T S j (nWo (nWo m (2 ^ b)) (2 ^ c))).1)
                       omega
                     · show (if b + 1 ≤ i ∧ (nWo (nPr T S) (P ||| 2 ^ c)).testBit i = true then _ else up1 (up1 (hp.1 150) b (c : Int)) c (b : Int) i) = (if b ≤ i ∧ m.testBit i = true then (if i = b then (c : Int) else if i = c then (b : Int) else _) else h.1 150 i)
                       rw [hmc]
                       by_cases q : i = b
                       · rw [if_neg (by omega), if_pos ⟨by omega, by rw [q]; exact hmt⟩, if_pos q, up1_n (by omega), q, up1_s]
                       · by_cases q2 : i = c
                         · rw [decide_eq_true q2.symm, if_neg (by simp), if_pos ⟨by omega, by rw [q2]; exact hmct⟩, if_neg q, if_pos q2, q2, up1_s]
                         · rw [decide_eq_false (fun z => q2 z.symm), Bool.not_false, Bool.and_true, up1_n q2, up1_n q, if_neg q, if_neg q2]
                           by_cases z : b ≤ i ∧ m.testBit i = true
                           · rw [if_pos z, if_pos ⟨by omega, z.2⟩]
                           · rw [if_neg z, if_neg (fun y => z ⟨by omega, y.2⟩)]
                             exact i5 i hi z)
              · refine gj_goto (pc' := 202) dX11_tryPeace_161 (by decide) ?_
                refine gj_iinc (pc' := 205) dX11_tryPeace_202 rfl rfl (by decide) ?_
                refine gj_goto (pc' := 131) dX11_tryPeace_205 (by decide) ?_
                refine gJ_wk (ih_c  _ (by omega) ?iv_4) ?ll_4
                case ll_4 =>
                  repeat' (first | exact True.intro | with_reducible exact rfl | refine And.intro ?_ ?_ | refine vI ?_ | refine vL ?_)
                  all_goals omega
                first
                | (rw [es, hE (by omega), c148, Bool.not_true, Bool.false_and, if_neg Bool.false_ne_true]; exact ⟨by omega, i2, i3, i4, i5, i6⟩)
                | (rw [es, hE (by omega), c148, c158, Bool.and_false, if_neg Bool.false_ne_true]; exact ⟨by omega, i2, i3, i4, i5, i6⟩)
                | (rw [es, hE (by omega), c148, c158, Bool.not_false, Bool.and_true, if_pos rfl]
                   have hmc : ∀ i, (nWo (nPr T S) (P ||| 2 ^ c)).testBit i = (m.testBit i && !decide (c = i)) := fun i => by
                     rw [← hm, nWo_bit, nWo_bit, Nat.testBit_or, Nat.testBit_two_pow]
                     cases (nPr T S).testBit i <;> cases P.testBit i <;> simp
                   have hmct : m.testBit c = true := by
                     rw [← hm, pzm_bit P (by omega), sPair_ng c158, c148]
                     rfl
                   have hxx : pz T S j (nWo (nPr T S) (P ||| 2 ^ c)) = pz T S j (nWo (nWo m (2 ^ b)) (2 ^ c)) := hext _ _ (fun i z1 z2 => by
                     rw [hmc, nWo_bit, nWo_bit, Nat.testBit_two_pow, Nat.testBit_two_pow, decide_eq_false (show ¬ b = i by omega)]
                     simp)
                   rw [hxx] at u4
                   refine ⟨by omega, u0.trans i2, fun o o1 o2 o3 => (u1 o o1 o2 o3).trans ((gui_n o2).trans ((gui_n o2).trans (i3 o o1 o2 o3))), fun k k1 k2 => (u2 k k1 k2).trans ?_, fun i hi z => ?_, ?_⟩
                   · rw [gui_n (by decide), gui_n (by decide)]
                     exact i4 k k1 k2
                   · have hbi : i ≠ b := fun q => z ⟨by omega, by rw [q]; exact hmt⟩
                     have hci : i ≠ c := fun q => z ⟨by omega, by rw [q]; exact hmct⟩
                     rw [u3 i hi (fun y => z ⟨by omega, by have y2 := y.2; rw [hmc, decide_eq_false (fun q => hci q.symm)] at y2; simpa using y2⟩), up1_n hci, up1_n hbi]
                     exact i5 i hi z
                   · rw [pzO_mrg, ← mrg_as]
                     refine pzS_cg u4 ?_ rfl (fun i hi => ?_)
                     · show co + nD (tLe T S b) (tLe T S c) + (pz T S j (nWo (nWo m (2 ^ b)) (2 ^ c))).1 = co + (nD (tLe T S b) (tLe T S c) + (pz T S j (nWo (nWo m (2 ^ b)) (2 ^ c))).1)
                       omega
                     · show (if b + 1 ≤ i ∧ (nWo (nPr T S) (P ||| 2 ^ c)).testBit i = true then _ else up1 (up1 (hp.1 150) b (c : Int)) c (b : Int) i) = (if b ≤ i ∧ m.testBit i = true then (if i = b then (c : Int) else if i = c then (b : Int) else _) else h.1 150 i)
                       rw [hmc]
                       by_cases q : i = b
                       · rw [if_neg (by omega), if_pos ⟨by omega, by rw [q]; exact hmt⟩, if_pos q, up1_n (by omega), q, up1_s]
                       · by_cases q2 : i = c
                         · rw [decide_eq_true q2.symm, if_neg (by simp), if_pos ⟨by omega, by rw [q2]; exact hmct⟩, if_neg q, if_pos q2, q2, up1_s]
                         · rw [decide_eq_false (fun z => q2 z.symm), Bool.not_false, Bool.and_true, up1_n q2, up1_n q, if_neg q, if_neg q2]
                           by_cases z : b ≤ i ∧ m.testBit i = true
                           · rw [if_pos z, if_pos ⟨by omega, z.2⟩]
                           · rw [if_neg z, if_neg (fun y => z ⟨by omega, y.2⟩)]
                             exact i5 i hi z)
        · refine gj_aload_n (pc' := 94) dX11_tryPeace_93 rfl rfl ?_
          refine gj_iload_n (pc' := 95) dX11_tryPeace_94 rfl rfl ?_
          refine gj_iconst (pc' := 96) dX11_tryPeace_95 rfl ?_
          refine gj_iadd (pc' := 97) dX11_tryPeace_96 rfl ?_
          rw [show (b : Int) + 1 = ((b + 1 : Nat) : Int) by omega]
          refine gj_iload_n (pc' := 98) dX11_tryPeace_97 rfl rfl ?_
          refine gj_iload_n (pc' := 99) dX11_tryPeace_98 rfl rfl ?_
          refine gc_X11_323 (pc' := 102) dX11_tryPeace_99 rfl (ih h P co x hA hP (by omega) hx hs) rfl (by first | rfl | assumption) (by omega) rfl (Nat.le_of_ble_eq_true rfl) (fun v9 h9 q9 => ?_)
          obtain ⟨rfl, q0, q1, q2, q3, q4⟩ := q9
          show gJ _ _ _ _ _ _ _ [] _ _
          refine gj_vret rfl dX11_tryPeace_102 ?_
          have hmf : (nWo (nPr T S) P).testBit b = false := by
            rw [hmb]
            first
            | (rw [c82]; rfl)
            | (rw [c90]; simp)
          rw [hpz, if_neg (by rw [hmf]; decide)]
          refine ⟨rfl, q0, q1, q2, fun i i1 i2 => q3 i i1 (fun z => i2 ⟨by omega, z.2⟩), pzS_cg q4 rfl rfl (fun i hi => ?_)⟩
          show (if b + 1 ≤ i ∧ (nWo (nPr T S) P).testBit i = true then _ else h.1 150 i) = (if b ≤ i ∧ (nWo (nPr T S) P).testBit i = true then _ else h.1 150 i)
          by_cases q : b = i
          · rw [if_neg (by omega), if_neg (by rw [← q, hmf]; simp)]
          · by_cases z : b ≤ i ∧ (nWo (nPr T S) P).testBit i = true
            · rw [if_pos z, if_pos ⟨by omega, z.2⟩]
            · rw [if_neg z, if_neg (fun y => z ⟨by omega, y.2⟩)]
    · exfalso; omega
