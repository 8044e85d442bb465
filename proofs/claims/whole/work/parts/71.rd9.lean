/-! the class's Reader: the line of a bird, from its day on -/
theorem s_birdB {h hg : gH} {B : Nat → Nat} {e p6 t m1 : Nat} {T T1 sl1 : Nat → Nat} {kd va vb : Nat} {R : Nat × Nat × (Nat → Nat)} (ht : isT t) (hTA : TownA h t T) (hSA : StrA h t T) (hL : h.1 1 4 = bI (decide (T 0 ≠ 0))) (hTL : TL T) (h4 : T 4 < 7) (hlo : ∀ x, x < 75 → T1 x = T x) (zs : ∀ n, n < 16 → (T1 (75 + n) ≠ 0 ↔ T (75 + n) ≠ 0 ∨ n = 6 + T 4)) (b10 : CTk hg B e p6) (b11 : hg.1 1 5 = (vb : Int)) (hN : CN hg T1 m1 sl1) (hU1 : NU T1) (hDg : hg.2.2 1 = t) (f6 : frE h hg t) (hg4 : hg.1 1 4 = h.1 1 4) (eg : ∀ o, 6 ≤ o → o ≠ t + 3 → o ≠ t + 4 → hg.1 o = h.1 o) (eg3 : hg.1 (t + 3) = up1 (h.1 (t + 3)) (T 4) (kd : Int)) (eg4 : hg.1 (t + 4) = up1 (h.1 (t + 4)) (T 4) (va : Int)) (hkd : kd ≤ 3) (hva : va < T 3) (hvb3 : vb < T 3) (hne : va ≠ vb) (hr : R = bd (ptN B e 16 0 30 p6) (fun d p7 => bd (ptN B e 17 1 60 p7) (fun w p8 => (0, p8, uT (uT (uT (uT (uT (uT T1 (19 + 5 * T 4) kd) (20 + 5 * T 4) va) (21 + 5 * T 4) vb) (22 + 5 * T 4) d) (23 + 5 * T 4) w) 4 (T 4 + 1))))) : gJ RX4 cX4_readBird 2 (some .boolean) 9 104 [some (.ref 1), some (.int (zI (T 4 : Int)))] [] hg (lnQ h B e t R) := by
  obtain ⟨t0, t1, t2, t3, t4, t5, t6, t7, -⟩ := shT ht
  have htt : t = 6 ∨ t = 29 := ht
  have hD : h.2.2 1 = t := by rw [← f6.1]; exact hDg
  refine gj_aload_n (pc' := 105) dX4_readBird_104 rfl rfl ?_
  refine gf_X4_31 (pc' := 108) dX4_readBird_105 rfl (by first | rfl | assumption) rfl ?_
  rw [hDg]
  refine gf_X4_172 (pc' := 111) dX4_readBird_108 rfl (by first | rfl | assumption) rfl ?_
  refine gj_iload_n (pc' := 112) dX4_readBird_111 rfl rfl ?_
  refine gj_aload_n (pc' := 113) dX4_readBird_112 rfl rfl ?_
  refine gf_X4_130 (pc' := 116) dX4_readBird_113 rfl (by first | rfl | assumption) rfl ?_
  rw [b11]
  refine gj_iast (pc' := 117) (j := T 4) (by first | rfl | assumption) (by omega) (by omega) (by decide) dX4_readBird_116 rfl ?_
  refine gj_aload_n (pc' := 118) dX4_readBird_117 rfl rfl ?_
  refine gj_ldcS (pc' := 120) dX4_readBird_118 rfl (gstr_X4_175) ?_
  refine gj_iconst (pc' := 121) dX4_readBird_120 rfl ?_
  refine gj_bipush (pc' := 123) dX4_readBird_121 rfl (by decide) ?_
  refine gc_X4_126 (pc' := 126) dX4_readBird_123 rfl (s_takeNumber (i := 16) (lo := 0) (hi := 30) (b10.p6 (o := t + 5) (k := T 4) (x := (vb : Int)) (by omega)) (by decide) (by decide)) rfl (by first | rfl | assumption) (by decide) rfl (Nat.le_of_ble_eq_true rfl) (fun v9 h9 q9 => ?_)
  obtain ⟨rfl, d1, d2, d3⟩ := q9
  obtain ⟨hn, rfl⟩ : ∃ x, x = h9 := ⟨h9, rfl⟩
  have f7 : frE h hn t := f6.tr ((frE.put ht (by omega)).tr (d1.fr t))
  have hDn : hn.2.2 1 = t := by rw [f7.1]; exact hD
  show gJ _ _ _ _ _ _ _ [.int (zI (bI _))] _ _
  first | refine gj_ifB_ne (pc' := 129) (tgt := 131) dX4_readBird_126 (by decide) rfl (fun c126 => ?_) (fun c126 => ?_) | refine gj_if_ne (pc' := 129) (tgt := 131) dX4_readBird_126 (by decide) rfl (by omega) (fun c126 => ?_) (fun c126 => ?_)
  · first | have g126 := of_decide_eq_true c126 | have g126 := of_decide_eq_false c126 | skip
    obtain ⟨b12, b13⟩ := d2 g126
    have hv4 := ptN_b g126
    obtain ⟨vd, hvd⟩ : ∃ x, x = (ptN B e 16 0 30 p6).2.1 := ⟨_, rfl⟩
    obtain ⟨p7, hp7⟩ : ∃ x, x = (ptN B e 16 0 30 p6).2.2 := ⟨_, rfl⟩
    rw [bd_0 g126, ← hvd, ← hp7] at hr
    rw [← hvd] at hv4 b13
    rw [← hp7] at b12
    refine gj_aload_n (pc' := 132) dX4_readBird_131 rfl rfl ?_
    refine gf_X4_31 (pc' := 135) dX4_readBird_132 rfl (by first | rfl | assumption) rfl ?_
    rw [hDn]
    refine gf_X4_177 (pc' := 138) dX4_readBird_135 rfl (by first | rfl | assumption) rfl ?_
    refine gj_iload_n (pc' := 139) dX4_readBird_138 rfl rfl ?_
    refine gj_aload_n (pc' := 140) dX4_readBird_139 rfl rfl ?_
    refine gf_X4_130 (pc' := 143) dX4_readBird_140 rfl (by first | rfl | assumption) rfl ?_
    rw [b13]
    refine gj_iast (pc' := 144) (j := T 4) (by first | rfl | assumption) (by omega) (by omega) (by decide) dX4_readBird_143 rfl ?_
    refine gj_aload_n (pc' := 145) dX4_readBird_144 rfl rfl ?_
    refine gj_ldcS (pc' := 147) dX4_readBird_145 rfl (gstr_X4_180) ?_
    refine gj_iconst (pc' := 148) dX4_readBird_147 rfl ?_
    refine gj_bipush (pc' := 150) dX4_readBird_148 rfl (by decide) ?_
    refine gc_X4_126 (pc' := 153) dX4_readBird_150 rfl (s_takeNumber (i := 17) (lo := 1) (hi := 60) (b12.p6 (o := t + 6) (k := T 4) (x := (vd : Int)) (by omega)) (by decide) (by decide)) rfl (by first | rfl | assumption) (by decide) rfl (Nat.le_of_ble_eq_true rfl) (fun v9 h9 q9 => ?_)
    obtain ⟨rfl, g1, g2, g3⟩ := q9
    obtain ⟨hz, rfl⟩ : ∃ x, x = h9 := ⟨h9, rfl⟩
    have f8 : frE h hz t := f7.tr ((frE.put ht (by omega)).tr (g1.fr t))
    have hDz : hz.2.2 1 = t := by rw [f8.1]; exact hD
    show gJ _ _ _ _ _ _ _ [.int (zI (bI _))] _ _
    first | refine gj_ifB_ne (pc' := 156) (tgt := 158) dX4_readBird_153 (by decide) rfl (fun c153 => ?_) (fun c153 => ?_) | refine gj_if_ne (pc' := 156) (tgt := 158) dX4_readBird_153 (by decide) rfl (by omega) (fun c153 => ?_) (fun c153 => ?_)
    · first | have g153 := of_decide_eq_true c153 | have g153 := of_decide_eq_false c153 | skip
      obtain ⟨b14, b15⟩ := g2 g153
      have hv5 := ptN_b g153
      obtain ⟨vw, hvw⟩ : ∃ x, x = (ptN B e 17 1 60 p7).2.1 := ⟨_, rfl⟩
      obtain ⟨p8, hp8⟩ : ∃ x, x = (ptN B e 17 1 60 p7).2.2 := ⟨_, rfl⟩
      rw [bd_0 g153, ← hvw, ← hp8] at hr
      rw [← hvw] at hv5 b15
      rw [← hp8] at b14
      have ek : hz.1 (t + 3) (T 4) = (kd : Int) := by rw [g1.2.1 _ (by omega) (by omega), gui_n (by omega), d1.2.1 _ (by omega) (by omega), gui_n (by omega), eg3, up1_s]
      have e4 : hz.1 t 4 = (T 4 : Int) := by rw [g1.2.1 _ (by omega) (by omega), gui_n (by omega), d1.2.1 _ (by omega) (by omega), gui_n (by omega), eg _ (by omega) (by omega) (by omega)]; exact hTA.1 4 (by decide)
      refine gj_aload_n (pc' := 159) dX4_readBird_158 rfl rfl ?_
      refine gf_X4_31 (pc' := 162) dX4_readBird_159 rfl (by first | rfl | assumption) rfl ?_
      rw [hDz]
      refine gf_X4_182 (pc' := 165) dX4_readBird_162 rfl (by first | rfl | assumption) rfl ?_
      refine gj_iload_n (pc' := 166) dX4_readBird_165 rfl rfl ?_
      refine gj_aload_n (pc' := 167) dX4_readBird_166 rfl rfl ?_
      refine gf_X4_31 (pc' := 170) dX4_readBird_167 rfl (by first | rfl | assumption) rfl ?_
      rw [hDz]
      refine gf_X4_157 (pc' := 173) dX4_readBird_170 rfl (by first | rfl | assumption) rfl ?_
      refine gj_iload_n (pc' := 174) dX4_readBird_173 rfl rfl ?_
      refine gj_iald (pc' := 175) (j := T 4) (by first | rfl | assumption) (by omega) (by omega) (by decide) dX4_readBird_174 rfl ?_
      rw [ek]
      refine gj_aload_n (pc' := 176) dX4_readBird_175 rfl rfl ?_
      refine gf_X4_130 (pc' := 179) dX4_readBird_176 rfl (by first | rfl | assumption) rfl ?_
      rw [b15]
      refine gr_X4_185 (pc' := 182) dX4_readBird_179 rfl (s_needBy hkd hv5.2) rfl (by decide) rfl (Nat.le_of_ble_eq_true rfl) ?_
      refine gj_iast (pc' := 183) (j := T 4) (by first | rfl | assumption) (by omega) (by omega) (by decide) dX4_readBird_182 rfl ?_
      refine gj_aload_n (pc' := 184) dX4_readBird_183 rfl rfl ?_
      refine gf_X4_31 (pc' := 187) dX4_readBird_184 rfl (by first | rfl | assumption) rfl ?_
      rw [show ∀ x, (gui hz (t + 7) (T 4) x).2.2 1 = t from fun _ => hDz]
      refine gj_dup (pc' := 188) dX4_readBird_187 rfl rfl ?_
      refine gf_X4_99 (pc' := 191) dX4_readBird_188 rfl (by first | rfl | assumption) rfl ?_
      rw [show ∀ x, (gui hz (t + 7) (T 4) x).1 t 4 = (T 4 : Int) from fun _ => by rw [gui_n (by omega)]; exact e4]
      refine gj_iconst (pc' := 192) dX4_readBird_191 rfl ?_
      refine gj_iadd (pc' := 193) dX4_readBird_192 rfl ?_
      refine gp_X4_99 (pc' := 196) dX4_readBird_193 rfl (by first | rfl | assumption) rfl ?_
      refine gj_iconst (pc' := 197) dX4_readBird_196 rfl ?_
      refine gj_zret rfl (by first | rfl | exact gnZ _ | assumption) dX4_readBird_197 ?_
      rw [hr]
      refine lnQ_0 (f8.tr ((frE.put ht (by omega)).tr (frE.put ht (by omega)))) (bird_LI ht hTA hSA hL hTL h4 rfl hlo zs b14 (((((hN.p6 (by omega)).re d1).p6 (by omega)).re g1)) hU1 hDz ?_ (fun o o6 z3 z4 z5 z6 => ?_) ?_ ?_ ?_ ?_ hkd hva hvb3 hne hv4.2 hv5)
      · rw [g1.2.2.2.1 4 (by decide), gui_n (by omega), d1.2.2.2.1 4 (by decide), gui_n (by omega)]
        exact hg4
      · rw [g1.2.1 o (by omega) (by omega), gui_n z6, d1.2.1 o (by omega) (by omega), gui_n z5]
        exact eg o o6 z3 z4
      · rw [g1.2.1 _ (by omega) (by omega), gui_n (by omega), d1.2.1 _ (by omega) (by omega), gui_n (by omega)]
        exact eg3
      · rw [g1.2.1 _ (by omega) (by omega), gui_n (by omega), d1.2.1 _ (by omega) (by omega), gui_n (by omega)]
        exact eg4
      · rw [g1.2.1 _ (by omega) (by omega), gui_n (by omega), d1.2.1 _ (by omega) (by omega), gui_s, eg _ (by omega) (by omega) (by omega)]
      · rw [g1.2.1 _ (by omega) (by omega), gui_s, d1.2.1 _ (by omega) (by omega), gui_n (by omega), eg _ (by omega) (by omega) (by omega)]
    · first | have g153 := of_decide_eq_true c153 | have g153 := of_decide_eq_false c153 | skip
      refine gj_iconst (pc' := 157) dX4_readBird_156 rfl ?_
      refine gj_zret rfl (by first | rfl | exact gnZ _ | assumption) dX4_readBird_157 ?_
      rw [hr]
      exact lnQ_1 g153 f8 g3
  · first | have g126 := of_decide_eq_true c126 | have g126 := of_decide_eq_false c126 | skip
    refine gj_iconst (pc' := 130) dX4_readBird_129 rfl ?_
    refine gj_zret rfl (by first | rfl | exact gnZ _ | assumption) dX4_readBird_130 ?_
    rw [hr]
    exact lnQ_1 g126 f7 d3
