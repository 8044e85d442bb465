/-! the model's reader: the line of a bird -/
theorem fd_cg {T T' : Nat → Nat} (he : ∀ x, 75 ≤ x → T' x = T x) (c : Nat) : fd T' c = fd T c := by
  have e1 : (fun n => decide (T' (75 + n) ≠ 0) && decide (nmC T' n = c)) = (fun n => decide (T (75 + n) ≠ 0) && decide (nmC T n = c)) := funext (fun n => by rw [he _ (by omega), nmC_cg he n])
  unfold fd
  rw [e1]
theorem ptH_cg {T T' : Nat → Nat} (he : ∀ x, 75 ≤ x → T' x = T x) (B : Nat → Nat) (e : Nat) (u : Int) (p : Nat) : ptH B e T' u p = ptH B e T u p := by
  unfold ptH
  rw [fd_cg he]
def lnB2 (B : Nat → Nat) (e n : Nat) (T1 : Nat → Nat) (p1 : Nat) : Nat × Nat × (Nat → Nat) := bd (ptK B e p1) (fun kd p2 => bd (ptW B e 14 p2) (fun _ p3 => bd (ptH B e T1 (-1) p3) (fun a p4 => bd (ptW B e 15 p4) (fun _ p5 => bd (ptH B e T1 (a : Int) p5) (fun b p6 => bd (ptN B e 16 0 30 p6) (fun d p7 => bd (ptN B e 17 1 60 p7) (fun w p8 => (0, p8, uT (uT (uT (uT (uT (uT T1 (19 + 5 * n) kd) (20 + 5 * n) a) (21 + 5 * n) b) (22 + 5 * n) d) (23 + 5 * n) w) 4 (n + 1)))))))))
def lnB1 (B : Nat → Nat) (e : Nat) (T : Nat → Nat) (q : Nat) : Nat × Nat × (Nat → Nat) := bd (ptM B e T q) (fun _ p1 => lnB2 B e (T 4) (tkN B e T (6 + T 4) q) p1)
theorem lnB1_e (B : Nat → Nat) (e : Nat) (T : Nat → Nat) (p : Nat) : lnB B e T p = lnB1 B e T (tEn B e p) := rfl
def kdQ (B : Nat → Nat) (e : Nat) (x : Nat × Nat) (kd : Int) : Prop := (x.1 ≠ 0 ∧ kd = -1) ∨ (x.1 = 0 ∧ kd = -1 ∧ ptK B e x.2 = (1, tS B e x.2, 0)) ∨ (x.1 = 0 ∧ ∃ v : Nat, kd = (v : Int) ∧ ptK B e x.2 = (0, v, tEn B e x.2))
theorem kw_t {B : Nat → Nat} {e i : Nat} {x : Nat × Nat} (h : (decide (x.1 = 0) && tIs B e x.2 i) = true) : x.1 = 0 ∧ tIs B e x.2 i = true := by
  simp only [Bool.and_eq_true, decide_eq_true_eq] at h
  exact h
theorem kw_f {B : Nat → Nat} {e i : Nat} {x : Nat × Nat} (g : x.1 = 0) (h : (decide (x.1 = 0) && tIs B e x.2 i) = false) : ¬ tIs B e x.2 i = true := by
  rw [decide_eq_true g, Bool.true_and] at h
  rw [h]
  decide
theorem kd0 {B : Nat → Nat} {e : Nat} {x : Nat × Nat} (a : (decide (x.1 = 0) && tIs B e x.2 10) = true) : kdQ B e x 0 := by
  obtain ⟨g, h⟩ := kw_t a
  exact Or.inr (Or.inr ⟨g, 0, rfl, by unfold ptK; rw [if_pos h]⟩)
theorem kd1 {B : Nat → Nat} {e : Nat} {x : Nat × Nat} (a : (decide (x.1 = 0) && tIs B e x.2 10) = false) (b : (decide (x.1 = 0) && tIs B e x.2 11) = true) : kdQ B e x 1 := by
  obtain ⟨g, h⟩ := kw_t b
  exact Or.inr (Or.inr ⟨g, 1, rfl, by unfold ptK; rw [if_neg (kw_f g a), if_pos h]⟩)
theorem kd2 {B : Nat → Nat} {e : Nat} {x : Nat × Nat} (a : (decide (x.1 = 0) && tIs B e x.2 10) = false) (b : (decide (x.1 = 0) && tIs B e x.2 11) = false) (c : (decide (x.1 = 0) && tIs B e x.2 12) = true) : kdQ B e x 2 := by
  obtain ⟨g, h⟩ := kw_t c
  exact Or.inr (Or.inr ⟨g, 2, rfl, by unfold ptK; rw [if_neg (kw_f g a), if_neg (kw_f g b), if_pos h]⟩)
theorem kd3 {B : Nat → Nat} {e : Nat} {x : Nat × Nat} (a : (decide (x.1 = 0) && tIs B e x.2 10) = false) (b : (decide (x.1 = 0) && tIs B e x.2 11) = false) (c : (decide (x.1 = 0) && tIs B e x.2 12) = false) (d : (decide (x.1 = 0) && tIs B e x.2 13) = true) : kdQ B e x 3 := by
  obtain ⟨g, h⟩ := kw_t d
  exact Or.inr (Or.inr ⟨g, 3, rfl, by unfold ptK; rw [if_neg (kw_f g a), if_neg (kw_f g b), if_neg (kw_f g c), if_pos h]⟩)
theorem kd4 {B : Nat → Nat} {e : Nat} {x : Nat × Nat} (a : (decide (x.1 = 0) && tIs B e x.2 10) = false) (b : (decide (x.1 = 0) && tIs B e x.2 11) = false) (c : (decide (x.1 = 0) && tIs B e x.2 12) = false) (d : (decide (x.1 = 0) && tIs B e x.2 13) = false) : kdQ B e x (-1) := by
  by_cases g : x.1 = 0
  · exact Or.inr (Or.inl ⟨g, rfl, by unfold ptK; rw [if_neg (kw_f g a), if_neg (kw_f g b), if_neg (kw_f g c), if_neg (kw_f g d)]⟩)
  · exact Or.inl ⟨g, rfl⟩
theorem m_birdTail {h : gH} {B : Nat → Nat} {e n : Nat} {T1 : Nat → Nat} {x : Nat × Nat} {R : Nat × Nat × (Nat → Nat)} {kd : Int} (hM : MM h B e T1 x) (hU : x.1 = 0 → NU T1) (hn : n < 7) (h4 : T1 4 = n) (hc : chR x R (lnB2 B e n T1 x.2)) (hk : kdQ B e x kd) : gJ RX11 cX11_birdLine 3 none 9 86 [some (.ref 142), some (.int (zI ((19 + 5 * n : Nat) : Int))), none] [.int (zI kd)] h (fun v h' => v = none ∧ mlE h h' ∧ MG h' B e R) := by
  rcases hk with ⟨g, rfl⟩ | ⟨g, rfl, hkk⟩ | ⟨g, vk, rfl, hkk⟩
  · have hf : h.1 142 13 = 1 := (hM.2 g).1
    refine gj_istore_n (pc' := 87) dX11_birdLine_86 rfl (by decide) ?_
    refine gj_iload_n (pc' := 88) dX11_birdLine_87 rfl rfl ?_
    refine gj_if_ge (pc' := 91) (tgt := 100) dX11_birdLine_88 (by decide) rfl (by omega) (fun c88 => ?_) (fun c88 => ?_)
    · exfalso; omega
    · refine gj_aload_n (pc' := 92) dX11_birdLine_91 rfl rfl ?_
      refine gj_iconst (pc' := 93) dX11_birdLine_92 rfl ?_
      refine gj_aload_n (pc' := 94) dX11_birdLine_93 rfl rfl ?_
      refine gf_X11_72 (pc' := 97) dX11_birdLine_94 rfl (by first | rfl | assumption) rfl ?_
      refine gc_X11_118 (pc' := 100) dX11_birdLine_97 rfl (m_wrongF hf) rfl (by first | rfl | assumption) (by decide) rfl (Nat.le_of_ble_eq_true rfl) (fun v9 h9 q9 => ?_)
      obtain ⟨rfl, rfl⟩ := q9
      show gJ _ _ _ _ _ _ _ [] _ _
      refine gj_aload_n (pc' := 101) dX11_birdLine_100 rfl rfl ?_
      refine gf_X11_91 (pc' := 104) dX11_birdLine_101 rfl (by first | rfl | assumption) rfl ?_
      rw [hf]
      first | refine gj_ifB_eq (pc' := 107) (tgt := 108) dX11_birdLine_104 (by decide) rfl (fun c104 => ?_) (fun c104 => ?_) | refine gj_if_eq (pc' := 107) (tgt := 108) dX11_birdLine_104 (by decide) rfl (by omega) (fun c104 => ?_) (fun c104 => ?_)
      · exfalso; omega
      · refine gj_vret rfl dX11_birdLine_107 ?_
        exact ⟨rfl, mlE.rf _, MG_x g hM hc⟩
  · have hL := hM.1 g
    refine gj_istore_n (pc' := 87) dX11_birdLine_86 rfl (by decide) ?_
    refine gj_iload_n (pc' := 88) dX11_birdLine_87 rfl rfl ?_
    refine gj_if_ge (pc' := 91) (tgt := 100) dX11_birdLine_88 (by decide) rfl (by omega) (fun c88 => ?_) (fun c88 => ?_)
    · exfalso; omega
    · refine gj_aload_n (pc' := 92) dX11_birdLine_91 rfl rfl ?_
      refine gj_iconst (pc' := 93) dX11_birdLine_92 rfl ?_
      refine gj_aload_n (pc' := 94) dX11_birdLine_93 rfl rfl ?_
      refine gf_X11_72 (pc' := 97) dX11_birdLine_94 rfl (by first | rfl | assumption) rfl ?_
      rw [hL.2.1.2.2.1]
      refine gc_X11_118 (pc' := 100) dX11_birdLine_97 rfl (m_wrong hL (k := 1) (by decide)) rfl (by first | rfl | assumption) (by decide) rfl (Nat.le_of_ble_eq_true rfl) (fun v9 h9 q9 => ?_)
      obtain ⟨rfl, w1, w2⟩ := q9
      show gJ _ _ _ _ _ _ _ [] _ _
      refine gj_aload_n (pc' := 101) dX11_birdLine_100 rfl rfl ?_
      refine gf_X11_91 (pc' := 104) dX11_birdLine_101 rfl (by first | rfl | assumption) rfl ?_
      rw [(w2.2 (show (1 : Nat) ≠ 0 by decide)).1]
      first | refine gj_ifB_eq (pc' := 107) (tgt := 108) dX11_birdLine_104 (by decide) rfl (fun c104 => ?_) (fun c104 => ?_) | refine gj_if_eq (pc' := 107) (tgt := 108) dX11_birdLine_104 (by decide) rfl (by omega) (fun c104 => ?_) (fun c104 => ?_)
      · exfalso; omega
      · refine gj_vret rfl dX11_birdLine_107 ?_
        exact ⟨rfl, w1.e, MG_x (show ¬ (1 : Nat) = 0 by decide) w2 (chR_1 (K := R) g (by decide) hkk hc)⟩
  · have hL := hM.1 g
    have hU := hU g
    have hvk : vk ≤ 3 := by
      have := ptK_b (B := B) (e := e) (p := x.2) (by rw [hkk])
      rw [hkk] at this
      exact this
    have hD : ∀ p5 (a : Nat), ptH B e T1 (a : Int) p5 = if tNm B e p5 = false then (1, tS B e p5, 0) else if fd T1 (tWd B e p5) = -2 ∨ 6 ≤ fd T1 (tWd B e p5) then (2, tS B e p5, 0) else if fd T1 (tWd B e p5) = (a : Int) then (3, tS B e p5, 0) else (0, (fd T1 (tWd B e p5)).toNat, tEn B e p5) := fun _ _ => rfl
    refine gj_istore_n (pc' := 87) dX11_birdLine_86 rfl (by decide) ?_
    refine gj_iload_n (pc' := 88) dX11_birdLine_87 rfl rfl ?_
    refine gj_if_ge (pc' := 91) (tgt := 100) dX11_birdLine_88 (by decide) rfl (by omega) (fun c88 => ?_) (fun c88 => ?_)
    · first | have g88 := of_decide_eq_true c88 | have g88 := of_decide_eq_false c88 | skip
      refine gj_aload_n (pc' := 101) dX11_birdLine_100 rfl rfl ?_
      refine gf_X11_91 (pc' := 104) dX11_birdLine_101 rfl (by first | rfl | assumption) rfl ?_
      rw [hL.1]
      first | refine gj_ifB_eq (pc' := 107) (tgt := 108) dX11_birdLine_104 (by decide) rfl (fun c104 => ?_) (fun c104 => ?_) | refine gj_if_eq (pc' := 107) (tgt := 108) dX11_birdLine_104 (by decide) rfl (by omega) (fun c104 => ?_) (fun c104 => ?_)
      · first | have g104 := of_decide_eq_true c104 | have g104 := of_decide_eq_false c104 | skip
        refine gj_aload_n (pc' := 109) dX11_birdLine_108 rfl rfl ?_
        refine gc_X11_112 (pc' := 112) dX11_birdLine_109 rfl (m_nextL hL) rfl (by first | rfl | assumption) (by decide) rfl (Nat.le_of_ble_eq_true rfl) (fun v9 h9 q9 => ?_)
        obtain ⟨rfl, n1, n2⟩ := q9
        obtain ⟨ha, rfl⟩ : ∃ x, x = h9 := ⟨h9, rfl⟩
        have hM0 : MM ha B e T1 (0, tEn B e x.2) := MM.at n2
        have c1 := chR_0 (p := 0) g hkk hc
        show gJ _ _ _ _ _ _ _ [] _ _
        refine gj_aload_n (pc' := 113) dX11_birdLine_112 rfl rfl ?_
        refine gf_X11_23 (pc' := 116) dX11_birdLine_113 rfl (by first | rfl | assumption) rfl ?_
        refine gj_iload_n (pc' := 117) dX11_birdLine_116 rfl rfl ?_
        refine gj_iload_n (pc' := 118) dX11_birdLine_117 rfl rfl ?_
        refine gj_iast (pc' := 119) (j := 19 + 5 * n) (by first | rfl | assumption) (by omega) (by omega) (by decide) dX11_birdLine_118 rfl ?_
        refine gj_aload_n (pc' := 120) dX11_birdLine_119 rfl rfl ?_
        refine gj_ldcS (pc' := 122) dX11_birdLine_120 rfl (gstr_X11_219) ?_
        refine gc_X11_145 (pc' := 125) dX11_birdLine_122 rfl (m_must (i := 14) (hM0.put (k := 19 + 5 * n) (v := vk)) (by decide)) rfl (by first | rfl | assumption) (by decide) rfl (Nat.le_of_ble_eq_true rfl) (fun v9 h9 q9 => ?_)
        obtain ⟨rfl, k2, x2, hM2, ch2⟩ := q9
        obtain ⟨hb, rfl⟩ : ∃ x, x = h9 := ⟨h9, rfl⟩
        have c2 := ch2 R _ c1
        have he2 : ∀ y, 75 ≤ y → uT T1 (19 + 5 * n) vk y = T1 y := fun y hy => uT_n (by omega)
        rw [← ptH_cg he2 B e (-1) x2.2] at c2
        show gJ _ _ _ _ _ _ _ [] _ _
        refine gj_aload_n (pc' := 126) dX11_birdLine_125 rfl rfl ?_
        refine gf_X11_23 (pc' := 129) dX11_birdLine_126 rfl (by first | rfl | assumption) rfl ?_
        refine gj_iload_n (pc' := 130) dX11_birdLine_129 rfl rfl ?_
        refine gj_iconst (pc' := 131) dX11_birdLine_130 rfl ?_
        refine gj_iadd (pc' := 132) dX11_birdLine_131 rfl ?_
        refine gj_aload_n (pc' := 133) dX11_birdLine_132 rfl rfl ?_
        refine gc_X11_221 (pc' := 136) dX11_birdLine_133 rfl (m_housePassed hM2 (fun _ => hU.cg he2)) rfl (by first | rfl | assumption) (by decide) rfl (Nat.le_of_ble_eq_true rfl) (fun v9 h9 q9 => ?_)
        obtain ⟨v1, x3, rfl, k3, hM3, hv1, ch3⟩ := q9
        obtain ⟨hcc, rfl⟩ : ∃ x, x = h9 := ⟨h9, rfl⟩
        have c3 := ch3 R _ c2
        show gJ _ _ _ _ _ _ _ (.int (zI (v1 : Int)) :: _) _ _
        refine gj_iast (pc' := 137) (j := 20 + 5 * n) (by first | rfl | assumption) (by omega) (by omega) (by decide) dX11_birdLine_136 rfl ?_
        refine gj_aload_n (pc' := 138) dX11_birdLine_137 rfl rfl ?_
        refine gj_ldcS (pc' := 140) dX11_birdLine_138 rfl (gstr_X11_224) ?_
        refine gc_X11_145 (pc' := 143) dX11_birdLine_140 rfl (m_must (i := 15) (hM3.put (k := 20 + 5 * n) (v := v1)) (by decide)) rfl (by first | rfl | assumption) (by decide) rfl (Nat.le_of_ble_eq_true rfl) (fun v9 h9 q9 => ?_)
        obtain ⟨rfl, k4, x4, hM4, ch4⟩ := q9
        obtain ⟨hd, rfl⟩ : ∃ x, x = h9 := ⟨h9, rfl⟩
        have c4 := ch4 R _ c3
        have he4 : ∀ y, 75 ≤ y → uT (uT T1 (19 + 5 * n) vk) (20 + 5 * n) v1 y = T1 y := fun y hy => (uT_n (by omega)).trans (he2 y hy)
        show gJ _ _ _ _ _ _ _ [] _ _
        refine gj_aload_n (pc' := 144) dX11_birdLine_143 rfl rfl ?_
        refine gf_X11_23 (pc' := 147) dX11_birdLine_144 rfl (by first | rfl | assumption) rfl ?_
        refine gj_iload_n (pc' := 148) dX11_birdLine_147 rfl rfl ?_
        refine gj_iconst (pc' := 149) dX11_birdLine_148 rfl ?_
        refine gj_iadd (pc' := 150) dX11_birdLine_149 rfl ?_
        refine gj_aload_n (pc' := 151) dX11_birdLine_150 rfl rfl ?_
        refine gc_X11_142 (pc' := 154) dX11_birdLine_151 rfl (m_houseHere hM4 (fun _ => hU.cg he4)) rfl (by first | rfl | assumption) (by decide) rfl (Nat.le_of_ble_eq_true rfl) (fun v9 h9 q9 => ?_)
        obtain ⟨v2, x5, rfl, k5, hM5, hv2, hq⟩ := q9
        obtain ⟨hf, rfl⟩ : ∃ x, x = h9 := ⟨h9, rfl⟩
        unfold hhQ at hq
        rw [fd_cg he4] at hq
        have hM6 := hM5.put (k := 21 + 5 * n) (v := v2)
        have hE : mlE h (gui hf 146 (21 + 5 * n) (v2 : Int)) := n1.e.tr (mlE.put.tr (k2.e.tr (k3.e.tr (mlE.put.tr (k4.e.tr (k5.e.tr mlE.put))))))
        show gJ _ _ _ _ _ _ _ (.int (zI (v2 : Int)) :: _) _ _
        refine gj_iast (pc' := 155) (j := 21 + 5 * n) (by first | rfl | assumption) (by omega) (by omega) (by decide) dX11_birdLine_154 rfl ?_
        refine gj_aload_n (pc' := 156) dX11_birdLine_155 rfl rfl ?_
        refine gf_X11_91 (pc' := 159) dX11_birdLine_156 rfl (by first | rfl | assumption) rfl ?_
        rw [hM6.fl]
        first | refine gj_ifB_ne (pc' := 162) (tgt := 190) dX11_birdLine_159 (by decide) rfl (fun c159 => ?_) (fun c159 => ?_) | refine gj_if_ne (pc' := 162) (tgt := 190) dX11_birdLine_159 (by decide) rfl (by omega) (fun c159 => ?_) (fun c159 => ?_)
        · first | have g159 := of_decide_eq_true c159 | have g159 := of_decide_eq_false c159 | skip
          first
          | (have hfl2 := (w2.2 (show (3 : Nat) ≠ 0 by decide)).1)
          | (have hfl2 := (hM6.1 gz).1)
          | (have hfl2 := hM6.fl)
          refine gj_aload_n (pc' := 191) dX11_birdLine_190 rfl rfl ?_
          refine gf_X11_91 (pc' := 194) dX11_birdLine_191 rfl (by first | rfl | assumption) rfl ?_
          rw [hfl2]
          first | refine gj_ifB_eq (pc' := 197) (tgt := 198) dX11_birdLine_194 (by decide) rfl (fun c194 => ?_) (fun c194 => ?_) | refine gj_if_eq (pc' := 197) (tgt := 198) dX11_birdLine_194 (by decide) rfl (by omega) (fun c194 => ?_) (fun c194 => ?_)
          · exfalso; first | omega | (have q := of_decide_eq_true c194; omega) | (have q := of_decide_eq_false c194; omega)
          · first | have g194 := of_decide_eq_true c194 | have g194 := of_decide_eq_false c194 | skip
            refine gj_vret rfl dX11_birdLine_197 ?_
            first
            | (have y1 := w1
               obtain ⟨q1, q2, q3, q4⟩ := hq4
               have hDD := hD x4.2 v1
               rw [if_neg (by rw [q2]; decide), if_neg (by omega), if_pos (by omega)] at hDD
               rw [q4] at w2
               exact ⟨rfl, hE.tr w1.e, MG_x (show ¬ (3 : Nat) = 0 by decide) w2 (chR_1 (K := R) q1 (by decide) hDD c4)⟩)
            | (refine ⟨rfl, hE, ?_⟩
               have hDD := hD x4.2 v1
               rcases hq with ⟨q1, q2⟩ | ⟨q1, q2, q3⟩ | ⟨q1, q2, q3, q4⟩ | ⟨q1, q2, q3, q4⟩
               · rw [q2] at hM6
                 exact MG_x q1 hM6 c4
               · rw [if_pos q2] at hDD
                 rw [q3] at hM6
                 exact MG_x (show ¬ (1 : Nat) = 0 by decide) hM6 (chR_1 (K := R) q1 (by decide) hDD c4)
               · rw [if_neg (by rw [q2]; decide), if_pos q3] at hDD
                 rw [q4] at hM6
                 exact MG_x (show ¬ (2 : Nat) = 0 by decide) hM6 (chR_1 (K := R) q1 (by decide) hDD c4)
               · rw [q4] at g159
                 exact absurd rfl g159)
        · first | have g159 := of_decide_eq_true c159 | have g159 := of_decide_eq_false c159 | skip
          have gz : x5.1 = 0 := Decidable.of_not_not g159
          have ea : (gui hf 146 (21 + 5 * n) (v2 : Int)).1 146 (20 + 5 * n) = (v1 : Int) := by
            rw [hM6.F gz (by omega), uT_n (by omega), uT_s]
          have eb : (gui hf 146 (21 + 5 * n) (v2 : Int)).1 146 (21 + 5 * n) = (v2 : Int) := by
            rw [hM6.F gz (by omega), uT_s]
          have hq4 : x4.1 = 0 ∧ tNm B e x4.2 = true ∧ fd T1 (tWd B e x4.2) = (v2 : Int) ∧ x5 = (0, x4.2) := by
            rcases hq with ⟨q1, q2⟩ | ⟨q1, q2, q3⟩ | ⟨q1, q2, q3, q4⟩ | q
            · rw [q2] at gz
              exact absurd gz q1
            · rw [q3] at gz
              exact absurd (show (1 : Nat) = 0 from gz) (by decide)
            · rw [q4] at gz
              exact absurd (show (2 : Nat) = 0 from gz) (by decide)
            · exact q
          refine gj_aload_n (pc' := 163) dX11_birdLine_162 rfl rfl ?_
          refine gf_X11_23 (pc' := 166) dX11_birdLine_163 rfl (by first | rfl | assumption) rfl ?_
          refine gj_iload_n (pc' := 167) dX11_birdLine_166 rfl rfl ?_
          refine gj_iconst (pc' := 168) dX11_birdLine_167 rfl ?_
          refine gj_iadd (pc' := 169) dX11_birdLine_168 rfl ?_
          refine gj_iald (pc' := 170) (j := 20 + 5 * n) (by first | rfl | assumption) (by omega) (by omega) (by decide) dX11_birdLine_169 rfl ?_
          rw [ea]
          refine gj_aload_n (pc' := 171) dX11_birdLine_170 rfl rfl ?_
          refine gf_X11_23 (pc' := 174) dX11_birdLine_171 rfl (by first | rfl | assumption) rfl ?_
          refine gj_iload_n (pc' := 175) dX11_birdLine_174 rfl rfl ?_
          refine gj_iconst (pc' := 176) dX11_birdLine_175 rfl ?_
          refine gj_iadd (pc' := 177) dX11_birdLine_176 rfl ?_
          refine gj_iald (pc' := 178) (j := 21 + 5 * n) (by first | rfl | assumption) (by omega) (by omega) (by decide) dX11_birdLine_177 rfl ?_
          rw [eb]
          refine gj_icmp_ne (pc' := 181) (tgt := 190) dX11_birdLine_178 (by decide) rfl (by omega) (fun c178 => ?_) (fun c178 => ?_)
          · first
            | (have hfl2 := (w2.2 (show (3 : Nat) ≠ 0 by decide)).1)
            | (have hfl2 := (hM6.1 gz).1)
            | (have hfl2 := hM6.fl)
            refine gj_aload_n (pc' := 191) dX11_birdLine_190 rfl rfl ?_
            refine gf_X11_91 (pc' := 194) dX11_birdLine_191 rfl (by first | rfl | assumption) rfl ?_
            rw [hfl2]
            first | refine gj_ifB_eq (pc' := 197) (tgt := 198) dX11_birdLine_194 (by decide) rfl (fun c194 => ?_) (fun c194 => ?_) | refine gj_if_eq (pc' := 197) (tgt := 198) dX11_birdLine_194 (by decide) rfl (by omega) (fun c194 => ?_) (fun c194 => ?_)
            · first | have g194 := of_decide_eq_true c194 | have g194 := of_decide_eq_false c194 | skip
              obtain ⟨q1, q2, q3, q4⟩ := hq4
              have hDD := hD x4.2 v1
              rw [if_neg (by rw [q2]; decide), if_neg (by omega), if_neg (by omega), q3] at hDD
              have hL6 := hM6.1 gz
              rw [q4] at hL6
              have c5 : chR (0, tEn B e x4.2) R _ := chR_0 (p := 0) q1 hDD c4
              refine gj_aload_n (pc' := 199) dX11_birdLine_198 rfl rfl ?_
              refine gc_X11_112 (pc' := 202) dX11_birdLine_199 rfl (m_nextL hL6) rfl (by first | rfl | assumption) (by decide) rfl (Nat.le_of_ble_eq_true rfl) (fun v9 h9 q9 => ?_)
              obtain ⟨rfl, j1, j2⟩ := q9
              obtain ⟨hg, rfl⟩ : ∃ x, x = h9 := ⟨h9, rfl⟩
              have hM7 : MM hg B e (uT (uT (uT T1 (19 + 5 * n) vk) (20 + 5 * n) v1) (21 + 5 * n) v2) (0, tEn B e x4.2) := MM.at j2
              show gJ _ _ _ _ _ _ _ [] _ _
              refine gj_aload_n (pc' := 203) dX11_birdLine_202 rfl rfl ?_
              refine gf_X11_23 (pc' := 206) dX11_birdLine_203 rfl (by first | rfl | assumption) rfl ?_
              refine gj_iload_n (pc' := 207) dX11_birdLine_206 rfl rfl ?_
              refine gj_iconst (pc' := 208) dX11_birdLine_207 rfl ?_
              refine gj_iadd (pc' := 209) dX11_birdLine_208 rfl ?_
              refine gj_aload_n (pc' := 210) dX11_birdLine_209 rfl rfl ?_
              refine gj_ldcS (pc' := 212) dX11_birdLine_210 rfl (gstr_X11_226) ?_
              refine gj_iconst (pc' := 213) dX11_birdLine_212 rfl ?_
              refine gj_bipush (pc' := 215) dX11_birdLine_213 rfl (by decide) ?_
              refine gc_X11_196 (pc' := 218) dX11_birdLine_215 rfl (m_after (i := 16) (lo := 0) (hi := 30) hM7 (by decide) (by decide)) rfl (by first | rfl | assumption) (by decide) rfl (Nat.le_of_ble_eq_true rfl) (fun v9 h9 q9 => ?_)
              obtain ⟨v3, x7, rfl, k7, hM8, ch7⟩ := q9
              obtain ⟨hi, rfl⟩ : ∃ x, x = h9 := ⟨h9, rfl⟩
              have c7 := ch7 R _ c5
              show gJ _ _ _ _ _ _ _ (.int (zI (v3 : Int)) :: _) _ _
              refine gj_iast (pc' := 219) (j := 22 + 5 * n) (by first | rfl | assumption) (by omega) (by omega) (by decide) dX11_birdLine_218 rfl ?_
              refine gj_aload_n (pc' := 220) dX11_birdLine_219 rfl rfl ?_
              refine gf_X11_23 (pc' := 223) dX11_birdLine_220 rfl (by first | rfl | assumption) rfl ?_
              refine gj_iload_n (pc' := 224) dX11_birdLine_223 rfl rfl ?_
              refine gj_iconst (pc' := 225) dX11_birdLine_224 rfl ?_
              refine gj_iadd (pc' := 226) dX11_birdLine_225 rfl ?_
              refine gj_aload_n (pc' := 227) dX11_birdLine_226 rfl rfl ?_
              refine gj_ldcS (pc' := 229) dX11_birdLine_227 rfl (gstr_X11_228) ?_
              refine gj_iconst (pc' := 230) dX11_birdLine_229 rfl ?_
              refine gj_bipush (pc' := 232) dX11_birdLine_230 rfl (by decide) ?_
              refine gc_X11_196 (pc' := 235) dX11_birdLine_232 rfl (m_after (i := 17) (lo := 1) (hi := 60) (hM8.put (k := 22 + 5 * n) (v := v3)) (by decide) (by decide)) rfl (by first | rfl | assumption) (by decide) rfl (Nat.le_of_ble_eq_true rfl) (fun v9 h9 q9 => ?_)
              obtain ⟨v4, x8, rfl, k8, hM9, ch8⟩ := q9
              obtain ⟨hj, rfl⟩ : ∃ x, x = h9 := ⟨h9, rfl⟩
              have c8 := ch8 R _ c7
              have hMa := hM9.put (k := 23 + 5 * n) (v := v4)
              have hE2 : mlE h (gui hj 146 (23 + 5 * n) (v4 : Int)) := hE.tr (j1.e.tr (k7.e.tr (mlE.put.tr (k8.e.tr mlE.put))))
              show gJ _ _ _ _ _ _ _ (.int (zI (v4 : Int)) :: _) _ _
              refine gj_iast (pc' := 236) (j := 23 + 5 * n) (by first | rfl | assumption) (by omega) (by omega) (by decide) dX11_birdLine_235 rfl ?_
              refine gj_aload_n (pc' := 237) dX11_birdLine_236 rfl rfl ?_
              refine gf_X11_91 (pc' := 240) dX11_birdLine_237 rfl (by first | rfl | assumption) rfl ?_
              rw [hMa.fl]
              first | refine gj_ifB_ne (pc' := 243) (tgt := 253) dX11_birdLine_240 (by decide) rfl (fun c240 => ?_) (fun c240 => ?_) | refine gj_if_ne (pc' := 243) (tgt := 253) dX11_birdLine_240 (by decide) rfl (by omega) (fun c240 => ?_) (fun c240 => ?_)
              · first | have g240 := of_decide_eq_true c240 | have g240 := of_decide_eq_false c240 | skip
                refine gj_vret rfl dX11_birdLine_253 ?_
                first
                | exact ⟨rfl, hE2, MG_x g240 hMa c8⟩
                | exact ⟨rfl, hE2.tr mlE.put, MG_e (hMa.put (k := 4) (v := n + 1)) c8⟩
              · first | have g240 := of_decide_eq_true c240 | have g240 := of_decide_eq_false c240 | skip
                refine gj_aload_n (pc' := 244) dX11_birdLine_243 rfl rfl ?_
                refine gf_X11_23 (pc' := 247) dX11_birdLine_244 rfl (by first | rfl | assumption) rfl ?_
                refine gj_iconst (pc' := 248) dX11_birdLine_247 rfl ?_
                refine gj_dup2 (pc' := 249) dX11_birdLine_248 rfl rfl rfl ?_
                have gy : x8.1 = 0 := Decidable.of_not_not g240
                have e3 : (gui hj 146 (23 + 5 * n) (v4 : Int)).1 146 4 = (n : Int) := by
                  rw [hMa.F gy (by decide), uT_n (by omega), uT_n (by omega), uT_n (by omega), uT_n (by omega), uT_n (by omega), h4]
                refine gj_iald (pc' := 250) (j := 4) (by first | rfl | assumption) (by omega) (by omega) (by decide) dX11_birdLine_249 rfl ?_
                rw [e3]
                refine gj_iconst (pc' := 251) dX11_birdLine_250 rfl ?_
                refine gj_iadd (pc' := 252) dX11_birdLine_251 rfl ?_
                rw [show (n : Int) + 1 = ((n + 1 : Nat) : Int) by omega]
                refine gj_iast (pc' := 253) (j := 4) (by first | rfl | assumption) (by omega) (by omega) (by decide) dX11_birdLine_252 rfl ?_
                refine gj_vret rfl dX11_birdLine_253 ?_
                first
                | exact ⟨rfl, hE2, MG_x g240 hMa c8⟩
                | exact ⟨rfl, hE2.tr mlE.put, MG_e (hMa.put (k := 4) (v := n + 1)) c8⟩
            · exfalso; first | omega | (have q := of_decide_eq_true c194; omega) | (have q := of_decide_eq_false c194; omega)
          · refine gj_aload_n (pc' := 182) dX11_birdLine_181 rfl rfl ?_
            refine gj_iconst (pc' := 183) dX11_birdLine_182 rfl ?_
            refine gj_aload_n (pc' := 184) dX11_birdLine_183 rfl rfl ?_
            refine gf_X11_72 (pc' := 187) dX11_birdLine_184 rfl (by first | rfl | assumption) rfl ?_
            rw [(hM6.1 gz).2.1.2.2.1]
            refine gc_X11_118 (pc' := 190) dX11_birdLine_187 rfl (m_wrong (hM6.1 gz) (k := 3) (by decide)) rfl (by first | rfl | assumption) (by decide) rfl (Nat.le_of_ble_eq_true rfl) (fun v9 h9 q9 => ?_)
            obtain ⟨rfl, w1, w2⟩ := q9
            show gJ _ _ _ _ _ _ _ [] _ _
            first
            | (have hfl2 := (w2.2 (show (3 : Nat) ≠ 0 by decide)).1)
            | (have hfl2 := (hM6.1 gz).1)
            | (have hfl2 := hM6.fl)
            refine gj_aload_n (pc' := 191) dX11_birdLine_190 rfl rfl ?_
            refine gf_X11_91 (pc' := 194) dX11_birdLine_191 rfl (by first | rfl | assumption) rfl ?_
            rw [hfl2]
            first | refine gj_ifB_eq (pc' := 197) (tgt := 198) dX11_birdLine_194 (by decide) rfl (fun c194 => ?_) (fun c194 => ?_) | refine gj_if_eq (pc' := 197) (tgt := 198) dX11_birdLine_194 (by decide) rfl (by omega) (fun c194 => ?_) (fun c194 => ?_)
            · exfalso; first | omega | (have q := of_decide_eq_true c194; omega) | (have q := of_decide_eq_false c194; omega)
            · first | have g194 := of_decide_eq_true c194 | have g194 := of_decide_eq_false c194 | skip
              refine gj_vret rfl dX11_birdLine_197 ?_
              first
              | (have y1 := w1
                 obtain ⟨q1, q2, q3, q4⟩ := hq4
                 have hDD := hD x4.2 v1
                 rw [if_neg (by rw [q2]; decide), if_neg (by omega), if_pos (by omega)] at hDD
                 rw [q4] at w2
                 exact ⟨rfl, hE.tr w1.e, MG_x (show ¬ (3 : Nat) = 0 by decide) w2 (chR_1 (K := R) q1 (by decide) hDD c4)⟩)
              | (refine ⟨rfl, hE, ?_⟩
                 have hDD := hD x4.2 v1
                 rcases hq with ⟨q1, q2⟩ | ⟨q1, q2, q3⟩ | ⟨q1, q2, q3, q4⟩ | ⟨q1, q2, q3, q4⟩
                 · rw [q2] at hM6
                   exact MG_x q1 hM6 c4
                 · rw [if_pos q2] at hDD
                   rw [q3] at hM6
                   exact MG_x (show ¬ (1 : Nat) = 0 by decide) hM6 (chR_1 (K := R) q1 (by decide) hDD c4)
                 · rw [if_neg (by rw [q2]; decide), if_pos q3] at hDD
                   rw [q4] at hM6
                   exact MG_x (show ¬ (2 : Nat) = 0 by decide) hM6 (chR_1 (K := R) q1 (by decide) hDD c4)
                 · rw [q4] at g159
                   exact absurd rfl g159)
      · exfalso; first | omega | (have q := of_decide_eq_true c104; omega) | (have q := of_decide_eq_false c104; omega)
    · exfalso; first | omega | (have q := of_decide_eq_true c88; omega) | (have q := of_decide_eq_false c88; omega)
theorem m_birdLine {h : gH} {B : Nat → Nat} {e : Nat} {T : Nat → Nat} {x : Nat × Nat} {R : Nat × Nat × (Nat → Nat)} (hM : MM h B e T x) (hx : x.1 = 0 → NU T ∧ T 4 < 7 ∧ T (75 + (6 + T 4)) = 0) (c0 : chR x R (lnB1 B e T x.2)) : gSp 9 yX11_birdLine cX11_birdLine 3 none [.ref 142] h (fun v h' => v = none ∧ mlE h h' ∧ MG h' B e R) := by
  have hfl := hM.fl
  refine gSp_of (by decide +kernel) (Nat.le_of_ble_eq_true rfl) ?_
  show gJ RX11 cX11_birdLine 3 none _ 0 [some (.ref 142), none, none] [] _ _
  refine gj_aload_n (pc' := 1) dX11_birdLine_0 rfl rfl ?_
  refine gf_X11_91 (pc' := 4) dX11_birdLine_1 rfl (by first | rfl | assumption) rfl ?_
  rw [hfl]
  first | refine gj_ifB_eq (pc' := 7) (tgt := 8) dX11_birdLine_4 (by decide) rfl (fun c4 => ?_) (fun c4 => ?_) | refine gj_if_eq (pc' := 7) (tgt := 8) dX11_birdLine_4 (by decide) rfl (by omega) (fun c4 => ?_) (fun c4 => ?_)
  · first | have g4 := of_decide_eq_true c4 | have g4 := of_decide_eq_false c4 | skip
    have g0 : x.1 = 0 := Decidable.of_not_not g4
    have hF := (hM.1 g0).2.2
    obtain ⟨hU, h4, hn0⟩ := hx g0
    refine gj_bipush (pc' := 10) dX11_birdLine_8 rfl (by decide) ?_
    refine gj_iconst (pc' := 11) dX11_birdLine_10 rfl ?_
    refine gj_aload_n (pc' := 12) dX11_birdLine_11 rfl rfl ?_
    refine gf_X11_23 (pc' := 15) dX11_birdLine_12 rfl (by first | rfl | assumption) rfl ?_
    refine gj_iconst (pc' := 16) dX11_birdLine_15 rfl ?_
    refine gj_iald (pc' := 17) (j := 4) (by first | rfl | assumption) (by omega) (by omega) (by decide) dX11_birdLine_16 rfl ?_
    rw [hF 4 (by decide)]
    refine gj_imul (pc' := 18) dX11_birdLine_17 rfl ?_
    refine gj_iadd (pc' := 19) dX11_birdLine_18 rfl ?_
    rw [show (19 : Int) + 5 * (T 4 : Int) = ((19 + 5 * T 4 : Nat) : Int) by omega]
    refine gj_istore_n (pc' := 20) dX11_birdLine_19 rfl (by decide) ?_
    refine gj_aload_n (pc' := 21) dX11_birdLine_20 rfl rfl ?_
    refine gj_bipush (pc' := 23) dX11_birdLine_21 rfl (by decide) ?_
    refine gj_aload_n (pc' := 24) dX11_birdLine_23 rfl rfl ?_
    refine gf_X11_23 (pc' := 27) dX11_birdLine_24 rfl (by first | rfl | assumption) rfl ?_
    refine gj_iconst (pc' := 28) dX11_birdLine_27 rfl ?_
    refine gj_iald (pc' := 29) (j := 4) (by first | rfl | assumption) (by omega) (by omega) (by decide) dX11_birdLine_28 rfl ?_
    rw [hF 4 (by decide)]
    refine gj_iadd (pc' := 30) dX11_birdLine_29 rfl ?_
    rw [show (6 : Int) + (T 4 : Int) = ((6 + T 4 : Nat) : Int) by omega]
    refine gc_X11_204 (pc' := 33) dX11_birdLine_30 rfl (m_newName hM hU (s := 6 + T 4) (by omega) hn0) rfl (by first | rfl | assumption) (by decide) rfl (Nat.le_of_ble_eq_true rfl) (fun v9 h9 q9 => ?_)
    obtain ⟨rfl, k1, x1, hM1, hU1, ch1⟩ := q9
    obtain ⟨ha, rfl⟩ : ∃ x, x = h9 := ⟨h9, rfl⟩
    have c1 := ch1 R _ c0
    have tail : ∀ kd : Int, kdQ B e x1 kd → gJ RX11 cX11_birdLine 3 none 9 86 [some (.ref 142), some (.int (zI ((19 + 5 * T 4 : Nat) : Int))), none] [.int (zI kd)] ha (fun v h' => v = none ∧ mlE h h' ∧ MG h' B e R) := fun kd hk => gJ_post (m_birdTail hM1 hU1 h4 (tkN_lo (by decide)) c1 hk) (fun v h' q => ⟨q.1, k1.tr q.2.1, q.2.2⟩)
    show gJ _ _ _ _ _ _ _ [] _ _
    refine gj_aload_n (pc' := 34) dX11_birdLine_33 rfl rfl ?_
    refine gj_ldcS (pc' := 36) dX11_birdLine_34 rfl (gstr_X11_211) ?_
    refine gr_X11_108 (pc' := 39) dX11_birdLine_36 rfl (m_isWord (i := 10) hM1 (by decide)) rfl (by first | rfl | assumption) (by decide) rfl (Nat.le_of_ble_eq_true rfl) ?_
    first | refine gj_ifB_eq (pc' := 42) (tgt := 46) dX11_birdLine_39 (by decide) rfl (fun c39 => ?_) (fun c39 => ?_) | refine gj_if_eq (pc' := 42) (tgt := 46) dX11_birdLine_39 (by decide) rfl (by omega) (fun c39 => ?_) (fun c39 => ?_)
    · first | have g39 := of_decide_eq_true c39 | have g39 := of_decide_eq_false c39 | skip
      refine gj_aload_n (pc' := 47) dX11_birdLine_46 rfl rfl ?_
      refine gj_ldcS (pc' := 49) dX11_birdLine_47 rfl (gstr_X11_213) ?_
      refine gr_X11_108 (pc' := 52) dX11_birdLine_49 rfl (m_isWord (i := 11) hM1 (by decide)) rfl (by first | rfl | assumption) (by decide) rfl (Nat.le_of_ble_eq_true rfl) ?_
      first | refine gj_ifB_eq (pc' := 55) (tgt := 59) dX11_birdLine_52 (by decide) rfl (fun c52 => ?_) (fun c52 => ?_) | refine gj_if_eq (pc' := 55) (tgt := 59) dX11_birdLine_52 (by decide) rfl (by omega) (fun c52 => ?_) (fun c52 => ?_)
      · first | have g52 := of_decide_eq_true c52 | have g52 := of_decide_eq_false c52 | skip
        refine gj_aload_n (pc' := 60) dX11_birdLine_59 rfl rfl ?_
        refine gj_ldcS (pc' := 62) dX11_birdLine_60 rfl (gstr_X11_215) ?_
        refine gr_X11_108 (pc' := 65) dX11_birdLine_62 rfl (m_isWord (i := 12) hM1 (by decide)) rfl (by first | rfl | assumption) (by decide) rfl (Nat.le_of_ble_eq_true rfl) ?_
        first | refine gj_ifB_eq (pc' := 68) (tgt := 72) dX11_birdLine_65 (by decide) rfl (fun c65 => ?_) (fun c65 => ?_) | refine gj_if_eq (pc' := 68) (tgt := 72) dX11_birdLine_65 (by decide) rfl (by omega) (fun c65 => ?_) (fun c65 => ?_)
        · first | have g65 := of_decide_eq_true c65 | have g65 := of_decide_eq_false c65 | skip
          refine gj_aload_n (pc' := 73) dX11_birdLine_72 rfl rfl ?_
          refine gj_ldcS (pc' := 75) dX11_birdLine_73 rfl (gstr_X11_217) ?_
          refine gr_X11_108 (pc' := 78) dX11_birdLine_75 rfl (m_isWord (i := 13) hM1 (by decide)) rfl (by first | rfl | assumption) (by decide) rfl (Nat.le_of_ble_eq_true rfl) ?_
          first | refine gj_ifB_eq (pc' := 81) (tgt := 85) dX11_birdLine_78 (by decide) rfl (fun c78 => ?_) (fun c78 => ?_) | refine gj_if_eq (pc' := 81) (tgt := 85) dX11_birdLine_78 (by decide) rfl (by omega) (fun c78 => ?_) (fun c78 => ?_)
          · first | have g78 := of_decide_eq_true c78 | have g78 := of_decide_eq_false c78 | skip
            refine gj_iconst (pc' := 86) dX11_birdLine_85 rfl ?_
            first
            | exact tail _ (kd4 c39 c52 c65 c78)
            | exact tail _ (kd3 c39 c52 c65 c78)
            | exact tail _ (kd2 c39 c52 c65)
            | exact tail _ (kd1 c39 c52)
            | exact tail _ (kd0 c39)
          · first | have g78 := of_decide_eq_true c78 | have g78 := of_decide_eq_false c78 | skip
            refine gj_iconst (pc' := 82) dX11_birdLine_81 rfl ?_
            refine gj_goto (pc' := 86) dX11_birdLine_82 (by decide) ?_
            first
            | exact tail _ (kd4 c39 c52 c65 c78)
            | exact tail _ (kd3 c39 c52 c65 c78)
            | exact tail _ (kd2 c39 c52 c65)
            | exact tail _ (kd1 c39 c52)
            | exact tail _ (kd0 c39)
        · first | have g65 := of_decide_eq_true c65 | have g65 := of_decide_eq_false c65 | skip
          refine gj_iconst (pc' := 69) dX11_birdLine_68 rfl ?_
          refine gj_goto (pc' := 86) dX11_birdLine_69 (by decide) ?_
          first
          | exact tail _ (kd4 c39 c52 c65 c78)
          | exact tail _ (kd3 c39 c52 c65 c78)
          | exact tail _ (kd2 c39 c52 c65)
          | exact tail _ (kd1 c39 c52)
          | exact tail _ (kd0 c39)
      · first | have g52 := of_decide_eq_true c52 | have g52 := of_decide_eq_false c52 | skip
        refine gj_iconst (pc' := 56) dX11_birdLine_55 rfl ?_
        refine gj_goto (pc' := 86) dX11_birdLine_56 (by decide) ?_
        first
        | exact tail _ (kd4 c39 c52 c65 c78)
        | exact tail _ (kd3 c39 c52 c65 c78)
        | exact tail _ (kd2 c39 c52 c65)
        | exact tail _ (kd1 c39 c52)
        | exact tail _ (kd0 c39)
    · first | have g39 := of_decide_eq_true c39 | have g39 := of_decide_eq_false c39 | skip
      refine gj_iconst (pc' := 43) dX11_birdLine_42 rfl ?_
      refine gj_goto (pc' := 86) dX11_birdLine_43 (by decide) ?_
      first
      | exact tail _ (kd4 c39 c52 c65 c78)
      | exact tail _ (kd3 c39 c52 c65 c78)
      | exact tail _ (kd2 c39 c52 c65)
      | exact tail _ (kd1 c39 c52)
      | exact tail _ (kd0 c39)
  · first | have g4 := of_decide_eq_true c4 | have g4 := of_decide_eq_false c4 | skip
    refine gj_vret rfl dX11_birdLine_7 ?_
    exact ⟨rfl, mlE.rf h, MG_x g4 hM c0⟩
