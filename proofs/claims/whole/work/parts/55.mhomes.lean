/-! strays: the model's rows of houses -/
theorem cnt_le (T : Nat → Nat) (n : Nat) : cnt T n ≤ n := by
  have := sN_le (f := fun c => (okF T c).toNat) (c := 1) (n := n) (fun i _ => Bool.toNat_le _)
  unfold cnt
  omega
theorem m_tryHomes {T S : Nat → Nat} {w : Int} (hT : TV T) (hS : SV T S) (hw : inB w) : ∀ (j : Nat), j ≤ T 5 → ∀ (h : gH) (p : Nat), MI h T S → p < 2 ^ (3 * (T 5 - j)) → (∀ i, i < T 5 - j → h.1 152 i = (gDg (T 5 - j) p i : Int)) → (∀ i, i < T 5 - j → gDg (T 5 - j) p i < T 3 ∧ gDg (T 5 - j) p i ≠ T (54 + 2 * i)) → SF h T w (p * 2 ^ (3 * j)) → gSp (6 + j) yX11_tryHomes cX11_tryHomes 4 none [.ref 142, .int (zI ((T 5 - j : Nat) : Int))] h (fun v h' => v = none ∧ h'.2 = h.2 ∧ (∀ o, o ≠ 142 → o ≠ 152 → o ≠ 153 → o ≠ 154 → o ≠ 155 → h'.1 o = h.1 o) ∧ (∀ k, k ≠ 30 → h'.1 142 k = h.1 142 k) ∧ (∀ i, i < T 5 - j → h'.1 152 i = h.1 152 i) ∧ SF h' T w ((p + 1) * 2 ^ (3 * j))) := by
  unfold inB at hw
  have h3 := hT.2.2.2.1
  have h4 : T 4 ≤ 7 := hT.2.2.2.2.1
  have h5 : T 5 ≤ 3 := hT.2.2.2.2.2.1
  have h6 : T 6 ≤ 5 := hT.2.2.2.2.2.2.1
  intro j
  induction j with
  | zero =>
    intro hj h p hM hp1 hdg hok hF
    rw [show T 5 - 0 = T 5 by omega] at hp1 hdg hok ⊢
    rw [show p * 2 ^ (3 * 0) = p by rw [Nat.mul_zero, Nat.pow_zero, Nat.mul_one]] at hF
    rw [show (p + 1) * 2 ^ (3 * 0) = p + 1 by rw [Nat.mul_zero, Nat.pow_zero, Nat.mul_one]]
    obtain ⟨f0, f1, f2, f3, f4⟩ := id hF
    obtain ⟨hA, -, -⟩ := id hM
    have hR : okR T p = true := okR_t.mpr hok
    have hcl := cnt_le T p
    have hNC := NC_le hT
    have hp2 : p < NC T := hp1
    have hfin : okS T p = false → SF h T w (p + 1) := fun q => hF.skip (by omega) (fun x x1 x2 => by
      obtain rfl : x = p := by omega
      unfold okF
      rw [q, Bool.and_false])
    have hw5 : h.1 145 5 = (T 5 : Int) := hA.1 5 (by decide)
    refine gSp_of (by decide +kernel) (Nat.le_of_ble_eq_true rfl) ?_
    show gJ RX11 cX11_tryHomes 4 none _ 0 [some (.ref 142), some (.int (zI (T 5 : Nat))), none, none] [] _ _
    refine gj_iload_n (pc' := 1) dX11_tryHomes_0 rfl rfl ?_
    refine gj_aload_n (pc' := 2) dX11_tryHomes_1 rfl rfl ?_
    refine gf_X11_20 (pc' := 5) dX11_tryHomes_2 rfl (by first | rfl | assumption) rfl ?_
    refine gj_iconst (pc' := 6) dX11_tryHomes_5 rfl ?_
    refine gj_iald (pc' := 7) (j := 5) (by first | rfl | assumption) (by omega) (by omega) (by decide) dX11_tryHomes_6 rfl ?_
    rw [hw5]
    refine gj_icmp_ge (pc' := 10) (tgt := 61) dX11_tryHomes_7 (by decide) rfl (by omega) (fun c7 => ?_) (fun c7 => ?_)
    · refine gj_iconst (pc' := 62) dX11_tryHomes_61 rfl ?_
      refine gj_istore_n (pc' := 63) dX11_tryHomes_62 rfl (by decide) ?_
      refine gJ_wk (gJ_fH0 (L := fun k  => [some (.ref 142), some (.int (zI (T 5 : Nat))), some (.int (zI (k : Int))), none]) (I := fun k  hp => hp = h ∧ anyN (okD T p) k = false) (T 6) (fun k  hp hb_k iv_k ih_k => ?step_1) (0) (Nat.zero_le _)  _ ?iv0_1) ?ll0_1
      case ll0_1 =>
        repeat' (first | exact True.intro | with_reducible exact rfl | refine And.intro ?_ ?_ | refine vI ?_ | refine vL ?_)
        all_goals first | rfl | omega
      case iv0_1 =>
        exact ⟨rfl, rfl⟩
      obtain ⟨rfl, i2⟩ := iv_k
      have es : anyN (okD T p) (k + 1) = (anyN (okD T p) k || okD T p k) := rfl
      have h11 := fun q : k < T 6 => hT.2.2.2.2.2.2.2.2.2.2 k q
      have hkn := knN_le hT k
      have hst := stN_le hT p (T (60 + 3 * k)) (T (61 + 3 * k))
      refine gj_iload_n (pc' := 64) dX11_tryHomes_63 rfl rfl ?_
      refine gj_aload_n (pc' := 65) dX11_tryHomes_64 rfl rfl ?_
      refine gf_X11_20 (pc' := 68) dX11_tryHomes_65 rfl (by first | rfl | assumption) rfl ?_
      refine gj_bipush (pc' := 70) dX11_tryHomes_68 rfl (by decide) ?_
      refine gj_iald (pc' := 71) (j := 6) (by first | rfl | assumption) (by omega) (by omega) (by decide) dX11_tryHomes_70 rfl ?_
      rw [hA.1 6 (by decide)]
      refine gj_icmp_ge (pc' := 74) (tgt := 154) dX11_tryHomes_71 (by decide) rfl (by omega) (fun c71 => ?_) (fun c71 => ?_)
      · have hO : okF T p = true := by
          unfold okF okS
          rw [hR, show T 6 = k by omega, i2]
          rfl
        have hcs := cnt_s (T := T) p
        rw [hO] at hcs
        have bt1 : true.toNat = 1 := rfl
        have key : ∀ (g h' : gH), g.1 142 = hp.1 142 → g.1 154 = hp.1 154 → g.1 155 = hp.1 155 → (∀ k, k ≠ 30 → h'.1 142 k = g.1 142 k) → h'.1 142 30 = g.1 142 30 + 1 → h'.1 153 = g.1 153 → (∀ s, s < T 5 → ∀ k, k < 6 → h'.1 154 (6 * s + k) = g.1 154 (6 * s + k) + (if gDg (T 5) p s = k then 1 else 0)) → (∀ k, k < T 3 → ∀ e, e < 41 → ∀ q, q < 4 → h'.1 155 (4 * (41 * k + e) + q) = g.1 155 (4 * (41 * k + e) + q) + (if stN T p k e = q then 1 else 0)) → (∀ x, x < p + 1 → okF T x = true → (cnt T x : Int) = w → ∀ s, s < T 5 → g.1 153 s = (gDg (T 5) x s : Int)) → SF h' T w (p + 1) := fun g h' e142 e154 e155 b1 b2 b3 b4 b5 b6 => by
          refine ⟨?_, ?_, fun s hs k hk => ?_, fun k hk e he q hq => ?_, fun x hx hox hxw s hs => ?_⟩
          · rw [b1 31 (by decide), e142]; exact f0
          · rw [b2, e142, f1]; omega
          · rw [b4 s hs k hk, e154, f2 s hs k hk]
            show _ = ((sN (fun x => (okF T x && (gDg (T 5) x s == k)).toNat) p + (okF T p && (gDg (T 5) p s == k)).toNat : Nat) : Int)
            rw [hO, Bool.true_and]
            by_cases y : gDg (T 5) p s = k
            · rw [if_pos y, beq_iff_eq.mpr y]; omega
            · rw [if_neg y, beq_eq_false_iff_ne.mpr y]
              have bt0 : false.toNat = 0 := rfl
              omega
          · rw [b5 k hk e he q hq, e155, f3 k hk e he q hq]
            show _ = ((sN (fun x => (okF T x && (stN T x k e == q)).toNat) p + (okF T p && (stN T p k e == q)).toNat : Nat) : Int)
            rw [hO, Bool.true_and]
            by_cases y : stN T p k e = q
            · rw [if_pos y, beq_iff_eq.mpr y]; omega
            · rw [if_neg y, beq_eq_false_iff_ne.mpr y]
              have bt0 : false.toNat = 0 := rfl
              omega
          · rw [b3]; exact b6 x hx hox hxw s hs
        refine gj_aload_n (pc' := 155) dX11_tryHomes_154 rfl rfl ?_
        refine gf_X11_352 (pc' := 158) dX11_tryHomes_155 rfl (by first | rfl | assumption) rfl ?_
        rw [f1]
        refine gj_aload_n (pc' := 159) dX11_tryHomes_158 rfl rfl ?_
        refine gf_X11_355 (pc' := 162) dX11_tryHomes_159 rfl (by first | rfl | assumption) rfl ?_
        rw [f0]
        refine gj_icmp_ne (pc' := 165) (tgt := 179) dX11_tryHomes_162 (by decide) rfl (by omega) (fun c162 => ?_) (fun c162 => ?_)
        · first
          | (exact gJ_wk (m_try179 (p := p) (hM.nt (q1 145 (by decide)) (q1 147 (by decide))) (fun s hs => by rw [q1 152 (by decide)]; exact hdg s hs) hR (by omega) (fun h' a0 a1 a2 a3 a4 a5 => ⟨rfl, a0.trans q0, fun o o1 o2 o3 o4 o5 => (a1 o o1 o4 o5).trans (q1 o o3), fun k hk => (a2 k hk).trans (by rw [q1 142 (by decide)]), fun i hi => by rw [a1 152 (by decide) (by decide) (by decide), q1 152 (by decide)], key hd h' (q1 142 (by decide)) (q1 154 (by decide)) (q1 155 (by decide)) a2 a3 (a1 153 (by decide) (by decide) (by decide)) a4 a5 (fun x hx hox hxw s hs => by
               have e : x = p := cnt_inj hox hO (by omega)
               rw [q2, if_pos (by omega), e, show 0 + (s - 0) = s by omega]
               exact hdg s hs)⟩)) ⟨rfl, trivial⟩)
          | (exact gJ_wk (m_try179 (p := p) hM hdg hR (by omega) (fun h' a0 a1 a2 a3 a4 a5 => ⟨rfl, a0, fun o o1 o2 o3 o4 o5 => a1 o o1 o4 o5, a2, fun i hi => by rw [a1 152 (by decide) (by decide) (by decide)], key hp h' rfl rfl rfl a2 a3 (a1 153 (by decide) (by decide) (by decide)) a4 a5 (fun x hx hox hxw s hs => by
               rcases Nat.lt_or_ge x p with z | z
               · exact f4 x z hox hxw s hs
               · exfalso
                 obtain rfl : x = p := by omega
                 omega)⟩)) ⟨rfl, trivial⟩)
        · refine gj_aload_n (pc' := 166) dX11_tryHomes_165 rfl rfl ?_
          refine gf_X11_41 (pc' := 169) dX11_tryHomes_166 rfl (by first | rfl | assumption) rfl ?_
          refine gj_iconst (pc' := 170) dX11_tryHomes_169 rfl ?_
          refine gj_aload_n (pc' := 171) dX11_tryHomes_170 rfl rfl ?_
          refine gf_X11_44 (pc' := 174) dX11_tryHomes_171 rfl (by first | rfl | assumption) rfl ?_
          refine gj_iconst (pc' := 175) dX11_tryHomes_174 rfl ?_
          refine gj_iconst (pc' := 176) dX11_tryHomes_175 rfl ?_
          refine gc_X11_162 (pc' := 179) dX11_tryHomes_176 rfl (m_copy (o := 152) (p := 0) (o2 := 153) (q := 0) (n := 3) rfl rfl (by decide) (by decide) (by decide) (by decide) (by decide)) rfl (by omega) rfl (Nat.le_of_ble_eq_true rfl) (fun v9 h9 q9 => ?_)
          obtain ⟨rfl, q0, q1, q2⟩ := q9
          obtain ⟨hd, rfl⟩ : ∃ x, x = h9 := ⟨h9, rfl⟩
          show gJ _ _ _ _ _ _ _ [] _ _
          first
          | (exact gJ_wk (m_try179 (p := p) (hM.nt (q1 145 (by decide)) (q1 147 (by decide))) (fun s hs => by rw [q1 152 (by decide)]; exact hdg s hs) hR (by omega) (fun h' a0 a1 a2 a3 a4 a5 => ⟨rfl, a0.trans q0, fun o o1 o2 o3 o4 o5 => (a1 o o1 o4 o5).trans (q1 o o3), fun k hk => (a2 k hk).trans (by rw [q1 142 (by decide)]), fun i hi => by rw [a1 152 (by decide) (by decide) (by decide), q1 152 (by decide)], key hd h' (q1 142 (by decide)) (q1 154 (by decide)) (q1 155 (by decide)) a2 a3 (a1 153 (by decide) (by decide) (by decide)) a4 a5 (fun x hx hox hxw s hs => by
               have e : x = p := cnt_inj hox hO (by omega)
               rw [q2, if_pos (by omega), e, show 0 + (s - 0) = s by omega]
               exact hdg s hs)⟩)) ⟨rfl, trivial⟩)
          | (exact gJ_wk (m_try179 (p := p) hM hdg hR (by omega) (fun h' a0 a1 a2 a3 a4 a5 => ⟨rfl, a0, fun o o1 o2 o3 o4 o5 => a1 o o1 o4 o5, a2, fun i hi => by rw [a1 152 (by decide) (by decide) (by decide)], key hp h' rfl rfl rfl a2 a3 (a1 153 (by decide) (by decide) (by decide)) a4 a5 (fun x hx hox hxw s hs => by
               rcases Nat.lt_or_ge x p with z | z
               · exact f4 x z hox hxw s hs
               · exfalso
                 obtain rfl : x = p := by omega
                 omega)⟩)) ⟨rfl, trivial⟩)
      · refine gj_aload_n (pc' := 75) dX11_tryHomes_74 rfl rfl ?_
        refine gj_aload_n (pc' := 76) dX11_tryHomes_75 rfl rfl ?_
        refine gf_X11_20 (pc' := 79) dX11_tryHomes_76 rfl (by first | rfl | assumption) rfl ?_
        refine gj_bipush (pc' := 81) dX11_tryHomes_79 rfl (by decide) ?_
        refine gj_iconst (pc' := 82) dX11_tryHomes_81 rfl ?_
        refine gj_iload_n (pc' := 83) dX11_tryHomes_82 rfl rfl ?_
        refine gj_imul (pc' := 84) dX11_tryHomes_83 rfl ?_
        refine gj_iadd (pc' := 85) dX11_tryHomes_84 rfl ?_
        refine gj_iald (pc' := 86) (j := 60 + 3 * k) (by first | rfl | assumption) (by omega) (by omega) (by decide) dX11_tryHomes_85 rfl ?_
        rw [hA.1 _ (by omega)]
        refine gj_aload_n (pc' := 87) dX11_tryHomes_86 rfl rfl ?_
        refine gf_X11_20 (pc' := 90) dX11_tryHomes_87 rfl (by first | rfl | assumption) rfl ?_
        refine gj_bipush (pc' := 92) dX11_tryHomes_90 rfl (by decide) ?_
        refine gj_iconst (pc' := 93) dX11_tryHomes_92 rfl ?_
        refine gj_iload_n (pc' := 94) dX11_tryHomes_93 rfl rfl ?_
        refine gj_imul (pc' := 95) dX11_tryHomes_94 rfl ?_
        refine gj_iadd (pc' := 96) dX11_tryHomes_95 rfl ?_
        refine gj_iconst (pc' := 97) dX11_tryHomes_96 rfl ?_
        refine gj_iadd (pc' := 98) dX11_tryHomes_97 rfl ?_
        refine gj_iald (pc' := 99) (j := 61 + 3 * k) (by first | rfl | assumption) (by omega) (by omega) (by decide) dX11_tryHomes_98 rfl ?_
        rw [hA.1 _ (by omega)]
        have h11k := h11 (by omega)
        refine gr_X11_346 (pc' := 102) dX11_tryHomes_99 rfl (m_satOn hM (by omega) (by omega)) rfl (by first | rfl | assumption) (by omega) rfl (Nat.le_of_ble_eq_true rfl) ?_
        rw [show sN (satN T (T (60 + 3 * k)) (T (61 + 3 * k))) (T 4) = knN T k from rfl]
        refine gj_aload_n (pc' := 103) dX11_tryHomes_102 rfl rfl ?_
        refine gj_aload_n (pc' := 104) dX11_tryHomes_103 rfl rfl ?_
        refine gf_X11_20 (pc' := 107) dX11_tryHomes_104 rfl (by first | rfl | assumption) rfl ?_
        refine gj_bipush (pc' := 109) dX11_tryHomes_107 rfl (by decide) ?_
        refine gj_iconst (pc' := 110) dX11_tryHomes_109 rfl ?_
        refine gj_iload_n (pc' := 111) dX11_tryHomes_110 rfl rfl ?_
        refine gj_imul (pc' := 112) dX11_tryHomes_111 rfl ?_
        refine gj_iadd (pc' := 113) dX11_tryHomes_112 rfl ?_
        refine gj_iald (pc' := 114) (j := 60 + 3 * k) (by first | rfl | assumption) (by omega) (by omega) (by decide) dX11_tryHomes_113 rfl ?_
        rw [hA.1 _ (by omega)]
        refine gj_aload_n (pc' := 115) dX11_tryHomes_114 rfl rfl ?_
        refine gf_X11_20 (pc' := 118) dX11_tryHomes_115 rfl (by first | rfl | assumption) rfl ?_
        refine gj_bipush (pc' := 120) dX11_tryHomes_118 rfl (by decide) ?_
        refine gj_iconst (pc' := 121) dX11_tryHomes_120 rfl ?_
        refine gj_iload_n (pc' := 122) dX11_tryHomes_121 rfl rfl ?_
        refine gj_imul (pc' := 123) dX11_tryHomes_122 rfl ?_
        refine gj_iadd (pc' := 124) dX11_tryHomes_123 rfl ?_
        refine gj_iconst (pc' := 125) dX11_tryHomes_124 rfl ?_
        refine gj_iadd (pc' := 126) dX11_tryHomes_125 rfl ?_
        refine gj_iald (pc' := 127) (j := 61 + 3 * k) (by first | rfl | assumption) (by omega) (by omega) (by decide) dX11_tryHomes_126 rfl ?_
        rw [hA.1 _ (by omega)]
        refine gr_X11_349 (pc' := 130) dX11_tryHomes_127 rfl (m_straysOn (c := p) hM hdg h11k.1 (by omega)) rfl (by first | rfl | assumption) (by omega) rfl (Nat.le_of_ble_eq_true rfl) ?_
        refine gj_iadd (pc' := 131) dX11_tryHomes_130 rfl ?_
        refine gj_aload_n (pc' := 132) dX11_tryHomes_131 rfl rfl ?_
        refine gf_X11_20 (pc' := 135) dX11_tryHomes_132 rfl (by first | rfl | assumption) rfl ?_
        refine gj_bipush (pc' := 137) dX11_tryHomes_135 rfl (by decide) ?_
        refine gj_iconst (pc' := 138) dX11_tryHomes_137 rfl ?_
        refine gj_iload_n (pc' := 139) dX11_tryHomes_138 rfl rfl ?_
        refine gj_imul (pc' := 140) dX11_tryHomes_139 rfl ?_
        refine gj_iadd (pc' := 141) dX11_tryHomes_140 rfl ?_
        refine gj_iconst (pc' := 142) dX11_tryHomes_141 rfl ?_
        refine gj_iadd (pc' := 143) dX11_tryHomes_142 rfl ?_
        refine gj_iald (pc' := 144) (j := 62 + 3 * k) (by first | rfl | assumption) (by omega) (by omega) (by decide) dX11_tryHomes_143 rfl ?_
        rw [hA.1 _ (by omega)]
        refine gj_icmp_eq (pc' := 147) (tgt := 148) dX11_tryHomes_144 (by decide) rfl (by omega) (fun c144 => ?_) (fun c144 => ?_)
        · refine gj_iinc (pc' := 151) dX11_tryHomes_148 rfl rfl (by decide) ?_
          refine gj_goto (pc' := 63) dX11_tryHomes_151 (by decide) ?_
          refine gJ_wk (ih_k  _ (by omega) ?iv_2) ?ll_2
          case ll_2 =>
            repeat' (first | exact True.intro | with_reducible exact rfl | refine And.intro ?_ ?_ | refine vI ?_ | refine vL ?_)
            all_goals omega
          refine ⟨rfl, ?_⟩
          rw [es, i2, Bool.false_or]
          unfold okD
          rw [Bool.not_eq_false', beq_iff_eq]
          omega
        · refine gj_vret rfl dX11_tryHomes_147 ?_
          have hit : okD T p k = true := by
            unfold okD
            rw [Bool.not_eq_true', beq_eq_false_iff_ne]
            omega
          exact ⟨rfl, rfl, fun _ _ _ _ _ _ => rfl, fun _ _ => rfl, fun _ _ => rfl, hfin (by unfold okS; rw [anyN_t.mpr ⟨k, by omega, hit⟩]; rfl)⟩
    · exfalso; omega
  | succ j ih =>
    intro hj h p hM hp1 hdg hok hF
    have ih := ih (by omega)
    obtain ⟨s, hs⟩ : ∃ s, s = T 5 - (j + 1) := ⟨_, rfl⟩
    have hsj : T 5 - j = s + 1 := by omega
    have hj2 : T 5 - 1 - s = j := by omega
    have hs5 : s < T 5 := by omega
    rw [← hs] at hp1 hdg hok ⊢
    rw [hsj] at ih
    obtain ⟨hA, -, -⟩ := id hM
    have h10 := hT.2.2.2.2.2.2.2.2.2.1 s hs5
    have hM0 : 0 < 2 ^ (3 * j) := Nat.pow_pos (by omega)
    have e8 : p * 2 ^ (3 * (j + 1)) = 8 * p * 2 ^ (3 * j) := by
      rw [pow8, ← Nat.mul_assoc, Nat.mul_comm p 8]
    have e9 : (p + 1) * 2 ^ (3 * (j + 1)) = (8 * p + 8) * 2 ^ (3 * j) := by
      rw [pow8, ← Nat.mul_assoc, show (p + 1) * 8 = 8 * p + 8 by omega]
    rw [e8] at hF
    rw [e9]
    have hp8 : ∀ k, k < 8 → 8 * p + k < 2 ^ (3 * (s + 1)) := fun k hk => by rw [pow8]; omega
    refine gSp_of (by decide +kernel) (Nat.le_of_ble_eq_true rfl) ?_
    show gJ RX11 cX11_tryHomes 4 none _ 0 [some (.ref 142), some (.int (zI (s : Int))), none, none] [] _ _
    refine gj_iload_n (pc' := 1) dX11_tryHomes_0 rfl rfl ?_
    refine gj_aload_n (pc' := 2) dX11_tryHomes_1 rfl rfl ?_
    refine gf_X11_20 (pc' := 5) dX11_tryHomes_2 rfl (by first | rfl | assumption) rfl ?_
    refine gj_iconst (pc' := 6) dX11_tryHomes_5 rfl ?_
    refine gj_iald (pc' := 7) (j := 5) (by first | rfl | assumption) (by omega) (by omega) (by decide) dX11_tryHomes_6 rfl ?_
    rw [hA.1 5 (by decide)]
    refine gj_icmp_ge (pc' := 10) (tgt := 61) dX11_tryHomes_7 (by decide) rfl (by omega) (fun c7 => ?_) (fun c7 => ?_)
    · exfalso; omega
    · refine gj_iconst (pc' := 11) dX11_tryHomes_10 rfl ?_
      refine gj_istore_n (pc' := 12) dX11_tryHomes_11 rfl (by decide) ?_
      refine gJ_wk (gJ_fH0 (L := fun k  => [some (.ref 142), some (.int (zI (s : Int))), some (.int (zI (k : Int))), none]) (I := fun k  hp => hp.2 = h.2 ∧ (∀ o, o ≠ 142 → o ≠ 152 → o ≠ 153 → o ≠ 154 → o ≠ 155 → hp.1 o = h.1 o) ∧ (∀ k, k ≠ 30 → hp.1 142 k = h.1 142 k) ∧ (∀ i, i < s → hp.1 152 i = h.1 152 i) ∧ SF hp T w ((8 * p + k) * 2 ^ (3 * j))) (T 3) (fun k  hp hb_k iv_k ih_k => ?step_3) (0) (Nat.zero_le _)  _ ?iv0_3) ?ll0_3
      case ll0_3 =>
        repeat' (first | exact True.intro | with_reducible exact rfl | refine And.intro ?_ ?_ | refine vI ?_ | refine vL ?_)
        all_goals first | rfl | omega
      case iv0_3 =>
        exact ⟨rfl, fun _ _ _ _ _ _ => rfl, fun _ _ => rfl, fun _ _ => rfl, hF⟩
      obtain ⟨i1, i2, i3, i4, i5⟩ := iv_k
      have hA2 : ∀ k, k < 219 → hp.1 145 k = (T k : Int) := fun k hk => by rw [i2 145 (by decide) (by decide) (by decide) (by decide) (by decide)]; exact hA.1 k hk
      refine gj_iload_n (pc' := 13) dX11_tryHomes_12 rfl rfl ?_
      refine gj_aload_n (pc' := 14) dX11_tryHomes_13 rfl rfl ?_
      refine gf_X11_20 (pc' := 17) dX11_tryHomes_14 rfl (by first | rfl | assumption) rfl ?_
      refine gj_iconst (pc' := 18) dX11_tryHomes_17 rfl ?_
      refine gj_iald (pc' := 19) (j := 3) (by first | rfl | assumption) (by omega) (by omega) (by decide) dX11_tryHomes_18 rfl ?_
      rw [hA2 3 (by decide)]
      refine gj_icmp_ge (pc' := 22) (tgt := 60) dX11_tryHomes_19 (by decide) rfl (by omega) (fun c19 => ?_) (fun c19 => ?_)
      · refine gj_vret rfl dX11_tryHomes_60 ?_
        refine ⟨rfl, i1, i2, i3, i4, i5.skip (Nat.mul_le_mul_right _ (by omega)) (fun x x1 x2 => seg_no hs5 (Or.inl ?_))⟩
        rw [hj2]
        have y1 := (Nat.le_div_iff_mul_le hM0).mpr x1
        have y2 := (Nat.div_lt_iff_lt_mul hM0).mpr x2
        generalize x / 2 ^ (3 * j) = y at y1 y2 ⊢
        omega
      · refine gj_iload_n (pc' := 23) dX11_tryHomes_22 rfl rfl ?_
        refine gj_aload_n (pc' := 24) dX11_tryHomes_23 rfl rfl ?_
        refine gf_X11_20 (pc' := 27) dX11_tryHomes_24 rfl (by first | rfl | assumption) rfl ?_
        refine gj_bipush (pc' := 29) dX11_tryHomes_27 rfl (by decide) ?_
        refine gj_iconst (pc' := 30) dX11_tryHomes_29 rfl ?_
        refine gj_iload_n (pc' := 31) dX11_tryHomes_30 rfl rfl ?_
        refine gj_imul (pc' := 32) dX11_tryHomes_31 rfl ?_
        refine gj_iadd (pc' := 33) dX11_tryHomes_32 rfl ?_
        refine gj_iald (pc' := 34) (j := 54 + 2 * s) (by first | rfl | assumption) (by omega) (by omega) (by decide) dX11_tryHomes_33 rfl ?_
        rw [hA2 _ (by omega)]
        refine gj_icmp_ne (pc' := 37) (tgt := 40) dX11_tryHomes_34 (by decide) rfl (by omega) (fun c34 => ?_) (fun c34 => ?_)
        · refine gj_aload_n (pc' := 41) dX11_tryHomes_40 rfl rfl ?_
          refine gf_X11_41 (pc' := 44) dX11_tryHomes_41 rfl (by first | rfl | assumption) rfl ?_
          refine gj_iload_n (pc' := 45) dX11_tryHomes_44 rfl rfl ?_
          refine gj_iload_n (pc' := 46) dX11_tryHomes_45 rfl rfl ?_
          refine gj_iast (pc' := 47) (j := s) (by first | rfl | assumption) (by omega) (by omega) (by decide) dX11_tryHomes_46 rfl ?_
          refine gj_aload_n (pc' := 48) dX11_tryHomes_47 rfl rfl ?_
          refine gj_iload_n (pc' := 49) dX11_tryHomes_48 rfl rfl ?_
          refine gj_iconst (pc' := 50) dX11_tryHomes_49 rfl ?_
          refine gj_iadd (pc' := 51) dX11_tryHomes_50 rfl ?_
          rw [show (s : Int) + 1 = ((s + 1 : Nat) : Int) by omega]
          refine gc_X11_343 (pc' := 54) dX11_tryHomes_51 rfl (ih _ (8 * p + k) (hM.nt ((gui_n (by decide)).trans (i2 145 (by decide) (by decide) (by decide) (by decide) (by decide))) ((gui_n (by decide)).trans (i2 147 (by decide) (by decide) (by decide) (by decide) (by decide)))) (hp8 k (by omega)) (fun i hi => by
            rw [gui_s]
            by_cases q : i = s
            · rw [q, up1_s, gDg_last (by omega)]
            · rw [up1_n q, i4 i (by omega), gDg_up (by omega) (by omega)]
              exact hdg i (by omega)) (fun i hi => by
            by_cases q : i = s
            · rw [q, gDg_last (by omega)]
              omega
            · rw [gDg_up (by omega) (by omega)]
              exact hok i (by omega)) (i5.to (by rw [gui_n (by decide)]) (by rw [gui_n (by decide)]) (gui_n (by decide)) (gui_n (by decide)) (gui_n (by decide)))) rfl (by first | rfl | assumption) (by omega) rfl (Nat.le_of_ble_eq_true rfl) (fun v9 h9 q9 => ?_)
          obtain ⟨rfl, q0, q1, q2, q3, q4⟩ := q9
          obtain ⟨hd, rfl⟩ : ∃ x, x = h9 := ⟨h9, rfl⟩
          show gJ _ _ _ _ _ _ _ [] _ _
          refine gj_iinc (pc' := 57) dX11_tryHomes_54 rfl rfl (by decide) ?_
          refine gj_goto (pc' := 12) dX11_tryHomes_57 (by decide) ?_
          refine gJ_wk (ih_k  _ (by omega) ?iv_4) ?ll_4
          case ll_4 =>
            repeat' (first | exact True.intro | with_reducible exact rfl | refine And.intro ?_ ?_ | refine vI ?_ | refine vL ?_)
            all_goals omega
          first
          | (refine ⟨q0.trans i1, fun o o1 o2 o3 o4 o5 => (q1 o o1 o2 o3 o4 o5).trans ((gui_n o2).trans (i2 o o1 o2 o3 o4 o5)), fun k hk => (q2 k hk).trans (by rw [gui_n (by decide)]; exact i3 k hk), fun i hi => ?_, q4⟩
             rw [q3 i (by omega), gui_s, up1_n (by omega)]
             exact i4 i hi)
          | (refine ⟨i1, i2, i3, i4, i5.skip (Nat.mul_le_mul_right _ (by omega)) (fun x x1 x2 => seg_no hs5 (Or.inr ?_))⟩
             rw [hj2, Nat.div_eq_of_lt_le x1 x2]
             omega)
        · refine gj_goto (pc' := 54) dX11_tryHomes_37 (by decide) ?_
          refine gj_iinc (pc' := 57) dX11_tryHomes_54 rfl rfl (by decide) ?_
          refine gj_goto (pc' := 12) dX11_tryHomes_57 (by decide) ?_
          refine gJ_wk (ih_k  _ (by omega) ?iv_5) ?ll_5
          case ll_5 =>
            repeat' (first | exact True.intro | with_reducible exact rfl | refine And.intro ?_ ?_ | refine vI ?_ | refine vL ?_)
            all_goals omega
          first
          | (refine ⟨q0.trans i1, fun o o1 o2 o3 o4 o5 => (q1 o o1 o2 o3 o4 o5).trans ((gui_n o2).trans (i2 o o1 o2 o3 o4 o5)), fun k hk => (q2 k hk).trans (by rw [gui_n (by decide)]; exact i3 k hk), fun i hi => ?_, q4⟩
             rw [q3 i (by omega), gui_s, up1_n (by omega)]
             exact i4 i hi)
          | (refine ⟨i1, i2, i3, i4, i5.skip (Nat.mul_le_mul_right _ (by omega)) (fun x x1 x2 => seg_no hs5 (Or.inr ?_))⟩
             rw [hj2, Nat.div_eq_of_lt_le x1 x2]
             omega)
theorem m_seekFits {h : gH} {T S : Nat → Nat} {w : Int} (hM : MI h T S) (hw : inB w) : gSp 10 yX11_seekFits cX11_seekFits 3 none [.ref 142, .int (zI w)] h (fun v h' => v = none ∧ h'.2 = h.2 ∧ (∀ o, o ≠ 142 → o ≠ 152 → o ≠ 153 → o ≠ 154 → o ≠ 155 → h'.1 o = h.1 o) ∧ (∀ k, k ≠ 30 → k ≠ 31 → h'.1 142 k = h.1 142 k) ∧ SF h' T w (NC T)) := by
  obtain ⟨hA, hT, hS⟩ := id hM
  have h5 : T 5 ≤ 3 := hT.2.2.2.2.2.1
  have h3 := hT.2.2.2.1
  refine gSp_of (by decide +kernel) (Nat.le_of_ble_eq_true rfl) ?_
  show gJ RX11 cX11_seekFits 3 none _ 0 [some (.ref 142), some (.int (zI w)), none] [] _ _
  refine gj_aload_n (pc' := 1) dX11_seekFits_0 rfl rfl ?_
  refine gj_iload_n (pc' := 2) dX11_seekFits_1 rfl rfl ?_
  refine gp_X11_355 (pc' := 5) dX11_seekFits_2 rfl (by first | rfl | assumption) rfl ?_
  refine gj_aload_n (pc' := 6) dX11_seekFits_5 rfl rfl ?_
  refine gj_iconst (pc' := 7) dX11_seekFits_6 rfl ?_
  refine gp_X11_352 (pc' := 10) dX11_seekFits_7 rfl (by first | rfl | assumption) rfl ?_
  refine gj_iconst (pc' := 11) dX11_seekFits_10 rfl ?_
  refine gj_istore_n (pc' := 12) dX11_seekFits_11 rfl (by decide) ?_
  refine gJ_wk (gJ_fH0 (L := fun k  => [some (.ref 142), some (.int (zI w)), some (.int (zI (k : Int)))]) (I := fun k  hp => hp.2 = h.2 ∧ (∀ o, o ≠ 142 → o ≠ 154 → hp.1 o = h.1 o) ∧ (∀ k, k ≠ 30 → k ≠ 31 → hp.1 142 k = h.1 142 k) ∧ (hp.1 142 30 = 0 ∧ hp.1 142 31 = w) ∧ (∀ i, i < k → hp.1 154 i = 0)) (18) (fun k  hp hb_k iv_k ih_k => ?step_1) (0) (Nat.zero_le _)  _ ?iv0_1) ?ll0_1
  case ll0_1 =>
    repeat' (first | exact True.intro | with_reducible exact rfl | refine And.intro ?_ ?_ | refine vI ?_ | refine vL ?_)
    all_goals first | rfl | omega
  case iv0_1 =>
    exact ⟨rfl, fun o o1 _ => (gui_n o1).trans (gui_n o1), fun k k1 k2 => by rw [gui_s, up1_n k1, gui_s, up1_n k2], ⟨by rw [gui_s, up1_s], by rw [gui_s, up1_n (by decide), gui_s, up1_s]⟩, fun i hi => absurd hi (Nat.not_lt_zero i)⟩
  obtain ⟨i1, i2, i3, i4, i5⟩ := iv_k
  refine gj_iload_n (pc' := 13) dX11_seekFits_12 rfl rfl ?_
  refine gj_bipush (pc' := 15) dX11_seekFits_13 rfl (by decide) ?_
  refine gj_icmp_ge (pc' := 18) (tgt := 31) dX11_seekFits_15 (by decide) rfl (by omega) (fun c15 => ?_) (fun c15 => ?_)
  · refine gj_iconst (pc' := 32) dX11_seekFits_31 rfl ?_
    refine gj_istore_n (pc' := 33) dX11_seekFits_32 rfl (by decide) ?_
    refine gJ_wk (gJ_fH0 (L := fun k  => [some (.ref 142), some (.int (zI w)), some (.int (zI (k : Int)))]) (I := fun k  hp => hp.2 = h.2 ∧ (∀ o, o ≠ 142 → o ≠ 154 → o ≠ 155 → hp.1 o = h.1 o) ∧ (∀ k, k ≠ 30 → k ≠ 31 → hp.1 142 k = h.1 142 k) ∧ (hp.1 142 30 = 0 ∧ hp.1 142 31 = w) ∧ (∀ i, i < 18 → hp.1 154 i = 0) ∧ (∀ i, i < k → hp.1 155 i = 0)) (984) (fun k  hp hb_k iv_k ih_k => ?step_2) (0) (Nat.zero_le _)  _ ?iv0_2) ?ll0_2
    case ll0_2 =>
      repeat' (first | exact True.intro | with_reducible exact rfl | refine And.intro ?_ ?_ | refine vI ?_ | refine vL ?_)
      all_goals first | rfl | omega
    case iv0_2 =>
      exact ⟨i1, fun o o1 o2 _ => i2 o o1 o2, i3, i4, fun i hi => i5 i (by omega), fun i hi => absurd hi (Nat.not_lt_zero i)⟩
    obtain ⟨j1, j2, j3, j4, j5, j6⟩ := iv_k
    refine gj_iload_n (pc' := 34) dX11_seekFits_33 rfl rfl ?_
    refine gj_sipush (pc' := 37) dX11_seekFits_34 rfl (by decide) ?_
    refine gj_icmp_ge (pc' := 40) (tgt := 53) dX11_seekFits_37 (by decide) rfl (by omega) (fun c37 => ?_) (fun c37 => ?_)
    · have hc := m_tryHomes (w := w) hT hS hw (T 5) (Nat.le_refl _) hp 0 (hM.nt (j2 145 (by decide) (by decide) (by decide)) (j2 147 (by decide) (by decide) (by decide)))
      rw [Nat.sub_self, Nat.zero_mul, Nat.zero_add, Nat.one_mul, show 2 ^ (3 * T 5) = NC T from rfl] at hc
      have hc := hc (by decide) (fun i hi => absurd hi (Nat.not_lt_zero i)) (fun i hi => absurd hi (Nat.not_lt_zero i)) ⟨j4.2, j4.1, fun s hs k hk => j5 _ (by omega), fun k hk d hd q hq => j6 _ (by omega), fun x hx => absurd hx (Nat.not_lt_zero x)⟩
      refine gj_aload_n (pc' := 54) dX11_seekFits_53 rfl rfl ?_
      refine gj_iconst (pc' := 55) dX11_seekFits_54 rfl ?_
      refine gc_X11_343 (pc' := 58) dX11_seekFits_55 rfl (hc) rfl (by first | rfl | assumption) (by omega) rfl (Nat.le_of_ble_eq_true rfl) (fun v9 h9 q9 => ?_)
      obtain ⟨rfl, q0, q1, q2, q3, q4⟩ := q9
      show gJ _ _ _ _ _ _ _ [] _ _
      refine gj_vret rfl dX11_seekFits_58 ?_
      exact ⟨rfl, q0.trans j1, fun o o1 o2 o3 o4 o5 => (q1 o o1 o2 o3 o4 o5).trans (j2 o o1 o4 o5), fun k k1 k2 => (q2 k k1).trans (j3 k k1 k2), q4⟩
    · refine gj_aload_n (pc' := 41) dX11_seekFits_40 rfl rfl ?_
      refine gf_X11_50 (pc' := 44) dX11_seekFits_41 rfl (by first | rfl | assumption) rfl ?_
      refine gj_iload_n (pc' := 45) dX11_seekFits_44 rfl rfl ?_
      refine gj_iconst (pc' := 46) dX11_seekFits_45 rfl ?_
      refine gj_iast (pc' := 47) (j := k) (by first | rfl | assumption) (by omega) (by omega) (by decide) dX11_seekFits_46 rfl ?_
      refine gj_iinc (pc' := 50) dX11_seekFits_47 rfl rfl (by decide) ?_
      refine gj_goto (pc' := 33) dX11_seekFits_50 (by decide) ?_
      refine gJ_wk (ih_k  _ (by omega) ?iv_3) ?ll_3
      case ll_3 =>
        repeat' (first | exact True.intro | with_reducible exact rfl | refine And.intro ?_ ?_ | refine vI ?_ | refine vL ?_)
        all_goals omega
      refine ⟨j1, fun o o1 o2 o3 => (gui_n o3).trans (j2 o o1 o2 o3), fun k k1 k2 => ?_, ?_, fun i hi => ?_, fun i hi => ?_⟩
      · rw [gui_n (by decide)]; exact j3 k k1 k2
      · rw [gui_n (by decide)]; exact j4
      · rw [gui_n (by decide)]; exact j5 i hi
      · rw [gui_s]
        by_cases q : i = k
        · rw [q, up1_s]
        · rw [up1_n q]; exact j6 i (by omega)
  · refine gj_aload_n (pc' := 19) dX11_seekFits_18 rfl rfl ?_
    refine gf_X11_47 (pc' := 22) dX11_seekFits_19 rfl (by first | rfl | assumption) rfl ?_
    refine gj_iload_n (pc' := 23) dX11_seekFits_22 rfl rfl ?_
    refine gj_iconst (pc' := 24) dX11_seekFits_23 rfl ?_
    refine gj_iast (pc' := 25) (j := k) (by first | rfl | assumption) (by omega) (by omega) (by decide) dX11_seekFits_24 rfl ?_
    refine gj_iinc (pc' := 28) dX11_seekFits_25 rfl rfl (by decide) ?_
    refine gj_goto (pc' := 12) dX11_seekFits_28 (by decide) ?_
    refine gJ_wk (ih_k  _ (by omega) ?iv_4) ?ll_4
    case ll_4 =>
      repeat' (first | exact True.intro | with_reducible exact rfl | refine And.intro ?_ ?_ | refine vI ?_ | refine vL ?_)
      all_goals omega
    refine ⟨i1, fun o o1 o2 => (gui_n o2).trans (i2 o o1 o2), fun k k1 k2 => ?_, ?_, fun i hi => ?_⟩
    · rw [gui_n (by decide)]; exact i3 k k1 k2
    · rw [gui_n (by decide)]; exact i4
    · rw [gui_s]
      by_cases q : i = k
      · rw [q, up1_s]
      · rw [up1_n q]; exact i5 i (by omega)
