/-! the model: loft -/
def stL (T : Nat → Nat) (s : gSt) : gSt := (fun j => if 13 ≤ j ∧ j < 13 + T 3 then T (8 + 2 * (j - 13)) else 0, (0, s.2.1.2), (0, s.2.2.2))
theorem stL_c {T : Nat → Nat} {s : gSt} {k : Nat} (hk : k < T 3) : (stL T s).1 (13 + k) = T (8 + 2 * k) := by
  show (if 13 ≤ 13 + k ∧ 13 + k < 13 + T 3 then T (8 + 2 * (13 + k - 13)) else 0) = _
  rw [if_pos (by omega), show 13 + k - 13 = k by omega]
theorem stL_z {T : Nat → Nat} {s : gSt} {j : Nat} (hj : j < 13 ∨ 13 + T 3 ≤ j) : (stL T s).1 j = 0 := if_neg (by omega)
theorem SV_L {T : Nat → Nat} {s : gSt} (hT : TV T) : SV T (stL T s).1 := by
  have h3 := hT.2.2.2.1
  have h4 : T 4 ≤ 7 := hT.2.2.2.2.1
  have h7 := hT.2.2.2.2.2.2.2.1
  refine ⟨fun b hb => ?_, ?_, ?_, fun k hk => ?_, fun k hk => ?_⟩
  · rw [stL_z (by omega)]; exact Nat.zero_le _
  · rw [stL_z (by omega)]; exact Nat.two_pow_pos _
  · rw [stL_z (by omega)]; exact Nat.zero_le _
  · rw [stL_z (by omega)]; exact Nat.zero_le _
  · rw [stL_c hk]; exact (h7 k hk).2
theorem stV_L {T : Nat → Nat} {s : gSt} (hT : TV T) : stV T (stL T s) := by
  have h3 := hT.2.2.2.1
  exact ⟨fun k hk => absurd hk (Nat.not_lt_zero k), fun k hk => absurd hk (Nat.not_lt_zero k), Nat.zero_le _, Nat.zero_le _, fun z => by omega⟩
theorem m_loftF {h : gH} {a : Int} (hf : h.1 142 13 = 1) : gJ RX11 cX11_loft 3 (some .int) 12 163 [some (.ref 142), some (.int (zI a)), none] [] h (fun v h' => v = some (.int (zI (-1))) ∧ h' = gui h 142 11 4) := by
  refine gj_aload_n (pc' := 164) dX11_loft_163 rfl rfl ?_
  refine gf_X11_91 (pc' := 167) dX11_loft_164 rfl (by first | rfl | assumption) rfl ?_
  rw [hf]
  first | refine gj_ifB_eq (pc' := 170) (tgt := 176) dX11_loft_167 (by decide) rfl (fun c167 => ?_) (fun c167 => ?_) | refine gj_if_eq (pc' := 170) (tgt := 176) dX11_loft_167 (by decide) rfl (by omega) (fun c167 => ?_) (fun c167 => ?_)
  · exfalso; omega
  · refine gj_aload_n (pc' := 171) dX11_loft_170 rfl rfl ?_
    refine gj_iconst (pc' := 172) dX11_loft_171 rfl ?_
    refine gc_X11_156 (pc' := 175) dX11_loft_172 rfl (m_no) rfl (by first | rfl | assumption) (by decide) rfl (Nat.le_of_ble_eq_true rfl) (fun v9 h9 q9 => ?_)
    obtain ⟨rfl, rfl⟩ := q9
    show gJ _ _ _ _ _ _ _ (.int (zI (-1)) :: _) _ _
    refine gj_iret rfl dX11_loft_175 ?_
    exact ⟨rfl, rfl⟩
/-- what a sound text leaves -/
def lgE (h h' : gH) (T : Nat → Nat) (s : gSt) : Prop := h'.2 = h.2 ∧ (∀ o, o ≠ 142 → o ≠ 145 → o ≠ 147 → h'.1 o = h.1 o) ∧ (∀ k, k ≠ 14 → k ≠ 20 → k ≠ 21 → h'.1 142 k = h.1 142 k) ∧ MST h' T (stL T s)
theorem m_loftG {h : gH} {a : Int} {T : Nat → Nat} {s : gSt} (h13 : h.1 142 13 = 0) (hF : ∀ k, k < 219 → h.1 146 k = (T k : Int)) (hT : TV T) : gJ RX11 cX11_loft 3 (some .int) 12 163 [some (.ref 142), some (.int (zI a)), none] [] h (fun v h' => v = some (.int (zI (T 3 : Int))) ∧ lgE h h' T s) := by
  have h3 := hT.2.2.2.1
  have h7 := hT.2.2.2.2.2.2.2.1
  refine gj_aload_n (pc' := 164) dX11_loft_163 rfl rfl ?_
  refine gf_X11_91 (pc' := 167) dX11_loft_164 rfl (by first | rfl | assumption) rfl ?_
  rw [h13]
  first | refine gj_ifB_eq (pc' := 170) (tgt := 176) dX11_loft_167 (by decide) rfl (fun c167 => ?_) (fun c167 => ?_) | refine gj_if_eq (pc' := 170) (tgt := 176) dX11_loft_167 (by decide) rfl (by omega) (fun c167 => ?_) (fun c167 => ?_)
  · refine gj_aload_n (pc' := 177) dX11_loft_176 rfl rfl ?_
    refine gf_X11_23 (pc' := 180) dX11_loft_177 rfl (by first | rfl | assumption) rfl ?_
    refine gj_iconst (pc' := 181) dX11_loft_180 rfl ?_
    refine gj_aload_n (pc' := 182) dX11_loft_181 rfl rfl ?_
    refine gf_X11_20 (pc' := 185) dX11_loft_182 rfl (by first | rfl | assumption) rfl ?_
    refine gj_iconst (pc' := 186) dX11_loft_185 rfl ?_
    refine gj_sipush (pc' := 189) dX11_loft_186 rfl (by decide) ?_
    refine gc_X11_162 (pc' := 192) dX11_loft_189 rfl (m_copy (o := 146) (p := 0) (o2 := 145) (q := 0) (n := 219) rfl rfl (by decide) (by decide) (by decide) (by decide) (by decide)) rfl (by decide) rfl (Nat.le_of_ble_eq_true rfl) (fun v9 h9 q9 => ?_)
    obtain ⟨rfl, d1, d2, d3⟩ := q9
    obtain ⟨ha, rfl⟩ : ∃ x, x = h9 := ⟨h9, rfl⟩
    have hR : ∀ k, k < 219 → ha.1 145 k = (T k : Int) := fun k hk => by
      rw [d3 k, if_pos (by omega), show 0 + (k - 0) = k by omega]
      exact hF k hk
    show gJ _ _ _ _ _ _ _ [] _ _
    refine gj_iconst (pc' := 193) dX11_loft_192 rfl ?_
    refine gj_istore_n (pc' := 194) dX11_loft_193 rfl (by decide) ?_
    refine gJ_wk (gJ_fH0 (L := fun k  => [some (.ref 142), some (.int (zI a)), some (.int (zI (k : Int)))]) (I := fun k  hp => hp.2 = ha.2 ∧ (∀ o, o ≠ 147 → hp.1 o = ha.1 o) ∧ (∀ j, j < k → hp.1 147 j = 0)) (22) (fun k  hp hb_k iv_k ih_k => ?step_1) (0) (Nat.zero_le _)  _ ?iv0_1) ?ll0_1
    case ll0_1 =>
      repeat' (first | exact True.intro | with_reducible exact rfl | refine And.intro ?_ ?_ | refine vI ?_ | refine vL ?_)
      all_goals first | rfl | omega
    case iv0_1 =>
      exact ⟨rfl, fun _ _ => rfl, fun j hj => absurd hj (Nat.not_lt_zero j)⟩
    obtain ⟨i1, i2, i3⟩ := iv_k
    refine gj_iload_n (pc' := 195) dX11_loft_194 rfl rfl ?_
    refine gj_bipush (pc' := 197) dX11_loft_195 rfl (by decide) ?_
    refine gj_icmp_ge (pc' := 200) (tgt := 213) dX11_loft_197 (by decide) rfl (by omega) (fun c197 => ?_) (fun c197 => ?_)
    · refine gj_iconst (pc' := 214) dX11_loft_213 rfl ?_
      refine gj_istore_n (pc' := 215) dX11_loft_214 rfl (by decide) ?_
      refine gJ_wk (gJ_fH0 (L := fun w  => [some (.ref 142), some (.int (zI a)), some (.int (zI (w : Int)))]) (I := fun w  hp => hp.2 = ha.2 ∧ (∀ o, o ≠ 147 → hp.1 o = ha.1 o) ∧ (∀ j, j < 22 → hp.1 147 j = ((if 13 ≤ j ∧ j < 13 + w then T (8 + 2 * (j - 13)) else 0 : Nat) : Int))) (T 3) (fun w  hp hb_w iv_w ih_w => ?step_2) (0) (Nat.zero_le _)  _ ?iv0_2) ?ll0_2
      case ll0_2 =>
        repeat' (first | exact True.intro | with_reducible exact rfl | refine And.intro ?_ ?_ | refine vI ?_ | refine vL ?_)
        all_goals first | rfl | omega
      case iv0_2 =>
        exact ⟨i1, i2, fun j hj => by rw [if_neg (by omega)]; exact i3 j (by omega)⟩
      obtain ⟨j1, j2, j3⟩ := iv_w
      have hRp : ∀ k, k < 219 → hp.1 145 k = (T k : Int) := fun k hk => by
        rw [j2 145 (by decide)]
        exact hR k hk
      refine gj_iload_n (pc' := 216) dX11_loft_215 rfl rfl ?_
      refine gj_aload_n (pc' := 217) dX11_loft_216 rfl rfl ?_
      refine gf_X11_20 (pc' := 220) dX11_loft_217 rfl (by first | rfl | assumption) rfl ?_
      refine gj_iconst (pc' := 221) dX11_loft_220 rfl ?_
      refine gj_iald (pc' := 222) (j := 3) (by first | rfl | assumption) (by omega) (by omega) (by decide) dX11_loft_221 rfl ?_
      rw [hRp 3 (by decide)]
      refine gj_icmp_ge (pc' := 225) (tgt := 253) dX11_loft_222 (by decide) rfl (by omega) (fun c222 => ?_) (fun c222 => ?_)
      · refine gj_aload_n (pc' := 254) dX11_loft_253 rfl rfl ?_
        refine gj_iconst (pc' := 255) dX11_loft_254 rfl ?_
        refine gp_X11_166 (pc' := 258) dX11_loft_255 rfl (by first | exact Or.inl rfl | exact Or.inr rfl | assumption) (by first | rfl | assumption) rfl ?_
        refine gj_aload_n (pc' := 259) dX11_loft_258 rfl rfl ?_
        refine gj_iconst (pc' := 260) dX11_loft_259 rfl ?_
        refine gp_X11_169 (pc' := 263) dX11_loft_260 rfl (by first | rfl | assumption) rfl ?_
        refine gj_aload_n (pc' := 264) dX11_loft_263 rfl rfl ?_
        refine gj_iconst (pc' := 265) dX11_loft_264 rfl ?_
        refine gp_X11_172 (pc' := 268) dX11_loft_265 rfl (by first | rfl | assumption) rfl ?_
        refine gj_aload_n (pc' := 269) dX11_loft_268 rfl rfl ?_
        refine gf_X11_20 (pc' := 272) dX11_loft_269 rfl (by first | rfl | assumption) rfl ?_
        refine gj_iconst (pc' := 273) dX11_loft_272 rfl ?_
        refine gj_iald (pc' := 274) (j := 3) (by first | rfl | assumption) (by omega) (by omega) (by decide) dX11_loft_273 rfl ?_
        rw [show (gui (gui (gui hp 142 14 1) 142 20 0) 142 21 0).1 145 3 = (T 3 : Int) from by rw [gui_n (by decide), gui_n (by decide), gui_n (by decide)]; exact hRp 3 (by decide)]
        refine gj_iret rfl dX11_loft_274 ?_
        have hw : w = T 3 := by omega
        refine ⟨rfl, by rw [← d1, ← j1]; rfl, fun o o1 o2 o3 => ?_, fun k k1 k2 k3 => ?_, ⟨⟨fun k hk => ?_, fun k hk => ?_⟩, ?_, ⟨by omega, hT.2.2.2.2.1, hT.2.2.2.2.2.1⟩, Or.inr ⟨hT, SV_L hT⟩⟩, ⟨?_, ?_, Nat.zero_le _, Nat.zero_le _, fun k hk => absurd hk (Nat.not_lt_zero k), fun k hk => absurd hk (Nat.not_lt_zero k)⟩, stV_L hT⟩
        · rw [gui_n o1, gui_n o1, gui_n o1, j2 o o3, d2 o o2]
        · rw [gui_s, up1_n k3, gui_s, up1_n k2, gui_s, up1_n k1, j2 142 (by decide), d2 142 (by decide)]
        · rw [gui_n (by decide), gui_n (by decide), gui_n (by decide)]
          exact hRp k hk
        · rw [gui_n (by decide), gui_n (by decide), gui_n (by decide), j3 k hk, hw]
          rfl
        · rw [gui_s, up1_n (by decide), gui_s, up1_n (by decide), gui_s, up1_s, decide_eq_true (show T 3 ≠ 0 by omega)]
          rfl
        · rw [gui_s, up1_n (by decide), gui_s, up1_s]
          rfl
        · rw [gui_s, up1_s]
          rfl
      · refine gj_aload_n (pc' := 226) dX11_loft_225 rfl rfl ?_
        refine gf_X11_26 (pc' := 229) dX11_loft_226 rfl (by first | rfl | assumption) rfl ?_
        refine gj_bipush (pc' := 231) dX11_loft_229 rfl (by decide) ?_
        refine gj_iload_n (pc' := 232) dX11_loft_231 rfl rfl ?_
        refine gj_iadd (pc' := 233) dX11_loft_232 rfl ?_
        refine gj_aload_n (pc' := 234) dX11_loft_233 rfl rfl ?_
        refine gf_X11_20 (pc' := 237) dX11_loft_234 rfl (by first | rfl | assumption) rfl ?_
        refine gj_bipush (pc' := 239) dX11_loft_237 rfl (by decide) ?_
        refine gj_iconst (pc' := 240) dX11_loft_239 rfl ?_
        refine gj_iload_n (pc' := 241) dX11_loft_240 rfl rfl ?_
        refine gj_imul (pc' := 242) dX11_loft_241 rfl ?_
        refine gj_iadd (pc' := 243) dX11_loft_242 rfl ?_
        refine gj_iconst (pc' := 244) dX11_loft_243 rfl ?_
        refine gj_iadd (pc' := 245) dX11_loft_244 rfl ?_
        refine gj_iald (pc' := 246) (j := 8 + 2 * w) (by first | rfl | assumption) (by omega) (by omega) (by decide) dX11_loft_245 rfl ?_
        rw [hRp (8 + 2 * w) (by omega)]
        refine gj_iast (pc' := 247) (j := 13 + w) (by first | rfl | assumption) (by omega) (by omega) (by decide) dX11_loft_246 rfl ?_
        refine gj_iinc (pc' := 250) dX11_loft_247 rfl rfl (by decide) ?_
        refine gj_goto (pc' := 215) dX11_loft_250 (by decide) ?_
        refine gJ_wk (ih_w  _ (by omega) ?iv_3) ?ll_3
        case ll_3 =>
          repeat' (first | exact True.intro | with_reducible exact rfl | refine And.intro ?_ ?_ | refine vI ?_ | refine vL ?_)
          all_goals omega
        refine ⟨j1, fun o ho => (gui_n ho).trans (j2 o ho), fun j hj => ?_⟩
        rw [gui_s]
        by_cases q : j = 13 + w
        · rw [q, up1_s, if_pos (by omega), show 13 + w - 13 = w by omega]
        · rw [up1_n q, j3 j hj]
          by_cases q2 : 13 ≤ j ∧ j < 13 + w
          · rw [if_pos q2, if_pos (by omega)]
          · rw [if_neg q2, if_neg (by omega)]
    · refine gj_aload_n (pc' := 201) dX11_loft_200 rfl rfl ?_
      refine gf_X11_26 (pc' := 204) dX11_loft_201 rfl (by first | rfl | assumption) rfl ?_
      refine gj_iload_n (pc' := 205) dX11_loft_204 rfl rfl ?_
      refine gj_iconst (pc' := 206) dX11_loft_205 rfl ?_
      refine gj_iast (pc' := 207) (j := k) (by first | rfl | assumption) (by omega) (by omega) (by decide) dX11_loft_206 rfl ?_
      refine gj_iinc (pc' := 210) dX11_loft_207 rfl rfl (by decide) ?_
      refine gj_goto (pc' := 194) dX11_loft_210 (by decide) ?_
      refine gJ_wk (ih_k  _ (by omega) ?iv_4) ?ll_4
      case ll_4 =>
        repeat' (first | exact True.intro | with_reducible exact rfl | refine And.intro ?_ ?_ | refine vI ?_ | refine vL ?_)
        all_goals omega
      refine ⟨i1, fun o ho => (gui_n ho).trans (i2 o ho), fun j hj => ?_⟩
      rw [gui_s]
      by_cases q : j = k
      · rw [q, up1_s]
      · rw [up1_n q]
        exact i3 j (by omega)
  · exfalso; omega
def lfE (h h' : gH) : Prop := h'.2 = h.2 ∧ (∀ o, o ≠ 142 → o ≠ 144 → o ≠ 146 → h'.1 o = h.1 o) ∧ (∀ k, (k = 0 ∨ k = 1 ∨ k = 2 ∨ k = 12 ∨ 13 < k) → h'.1 142 k = h.1 142 k)
theorem mlE.lf {h h' : gH} (a : mlE h h') : lfE h h' := ⟨a.1, a.2.1, fun k hk => a.2.2.1 k (by omega)⟩
theorem lfE.tr {h h1 h2 : gH} (a : lfE h h1) (b : lfE h1 h2) : lfE h h2 := ⟨b.1.trans a.1, fun o o1 o2 o3 => (b.2.1 o o1 o2 o3).trans (a.2.1 o o1 o2 o3), fun k hk => (b.2.2 k hk).trans (a.2.2 k hk)⟩
theorem m_loftT {h : gH} {a : Int} {B : Nat → Nat} {e i : Nat} {s : gSt} (hi : i ≤ 900) (hend : ¬ ((rdS B e i).1 = 0 ∧ tSr B e (rdS B e i).2.1 = 3)) (hM : MG h B e (rdS B e i)) (hTN : tlS B e 900) : gJ RX11 cX11_loft 3 (some .int) 12 104 [some (.ref 142), some (.int (zI a)), none] [] h (fun v h' => (v = some (.int (zI (-1))) ∧ ∃ hp, lfE h hp ∧ MF hp (rdR B e).1 (rdR B e).2.1 ∧ (rdR B e).1 ≠ 0 ∧ h' = gui hp 142 11 4) ∨ ((rdR B e).1 = 0 ∧ v = some (.int (zI ((rdR B e).2.2 3 : Int))) ∧ lgE h h' (rdR B e).2.2 s)) := by
  have hF9 := rdS_end hi hend
  have hr : rdR B e = if (rdS B e 900).1 ≠ 0 then rdS B e 900 else if tSr B e (rdS B e 900).2.1 ≠ 0 then (1, tS B e (rdS B e 900).2.1, fun _ => 0) else if (rdS B e 900).2.2 3 < 2 then (6, tS B e (rdS B e 900).2.1, fun _ => 0) else rdS B e 900 := rfl
  have hgo := rdS_go (B := B) (e := e) 900
  have hTN9 := hTN 900 (Nat.le_refl _)
  rw [hF9] at hr hgo hTN9
  obtain ⟨r, hrr⟩ : ∃ r, r = rdS B e i := ⟨_, rfl⟩
  rw [← hrr] at hr hgo hTN9 hM hend
  clear hF9 hTN hrr
  generalize rdR B e = rr at hr ⊢
  by_cases g : r.1 = 0
  · have hL := hM.1 g
    have hT := hL.2.1
    have h6 := hT.2.2.2.2.1
    have hsr := tSr_le B e r.2.1
    have htk := tkM_2 hsr
    obtain ⟨hp, hT0, -⟩ := hgo g
    obtain ⟨hTL, hU⟩ := hTN9 g
    have h50 := hTL.1.1
    have h36 := hTL.1.2.2.2.1
    rw [if_neg (fun z => z g)] at hr
    by_cases g2 : tSr B e r.2.1 = 0
    · rw [if_neg (fun z => z g2)] at hr
      have ht0 : tkM (tSr B e r.2.1) = 0 := htk.2.2.2.1.mpr g2
      by_cases g3 : r.2.2 3 < 2
      · rw [if_pos g3] at hr
        rw [hr]
        refine gj_aload_n (pc' := 105) dX11_loft_104 rfl rfl ?_
        refine gf_X11_91 (pc' := 108) dX11_loft_105 rfl (by first | rfl | assumption) rfl ?_
        rw [hL.1]
        refine gj_if_ne (pc' := 111) (tgt := 127) dX11_loft_108 (by decide) rfl (by omega) (fun c108 => ?_) (fun c108 => ?_)
        · exfalso; omega
        · refine gj_aload_n (pc' := 112) dX11_loft_111 rfl rfl ?_
          refine gf_X11_81 (pc' := 115) dX11_loft_112 rfl (by first | rfl | assumption) rfl ?_
          rw [h6.trans ht0]
          refine gj_if_eq (pc' := 118) (tgt := 127) dX11_loft_115 (by decide) rfl (by omega) (fun c115 => ?_) (fun c115 => ?_)
          · refine gj_aload_n (pc' := 128) dX11_loft_127 rfl rfl ?_
            refine gf_X11_91 (pc' := 131) dX11_loft_128 rfl (by first | rfl | assumption) rfl ?_
            rw [hL.1]
            refine gj_if_ne (pc' := 134) (tgt := 163) dX11_loft_131 (by decide) rfl (by omega) (fun c131 => ?_) (fun c131 => ?_)
            · exfalso; omega
            · refine gj_aload_n (pc' := 135) dX11_loft_134 rfl rfl ?_
              refine gf_X11_23 (pc' := 138) dX11_loft_135 rfl (by first | rfl | assumption) rfl ?_
              refine gj_iconst (pc' := 139) dX11_loft_138 rfl ?_
              refine gj_iald (pc' := 140) (j := 0) (by first | rfl | assumption) (by omega) (by omega) (by decide) dX11_loft_139 rfl ?_
              rw [hL.2.2 0 (by decide)]
              refine gj_if_eq (pc' := 143) (tgt := 153) dX11_loft_140 (by decide) rfl (by omega) (fun c140 => ?_) (fun c140 => ?_)
              · exfalso; omega
              · refine gj_aload_n (pc' := 144) dX11_loft_143 rfl rfl ?_
                refine gf_X11_23 (pc' := 147) dX11_loft_144 rfl (by first | rfl | assumption) rfl ?_
                refine gj_iconst (pc' := 148) dX11_loft_147 rfl ?_
                refine gj_iald (pc' := 149) (j := 3) (by first | rfl | assumption) (by omega) (by omega) (by decide) dX11_loft_148 rfl ?_
                refine gj_iconst (pc' := 150) dX11_loft_149 rfl ?_
                rw [hL.2.2 3 (by decide)]
                refine gj_icmp_ge (pc' := 153) (tgt := 163) dX11_loft_150 (by decide) rfl (by omega) (fun c150 => ?_) (fun c150 => ?_)
                · exfalso; omega
                · refine gj_aload_n (pc' := 154) dX11_loft_153 rfl rfl ?_
                  refine gj_bipush (pc' := 156) dX11_loft_154 rfl (by decide) ?_
                  refine gj_aload_n (pc' := 157) dX11_loft_156 rfl rfl ?_
                  refine gf_X11_72 (pc' := 160) dX11_loft_157 rfl (by first | rfl | assumption) rfl ?_
                  rw [hT.2.2.1]
                  refine gc_X11_118 (pc' := 163) dX11_loft_160 rfl (m_wrong hL (k := 6) (by decide)) rfl (by first | rfl | assumption) (by decide) rfl (Nat.le_of_ble_eq_true rfl) (fun v9 h9 q9 => ?_)
                  obtain ⟨rfl, w1, w2⟩ := q9
                  have hf := w2.2 (show (6 : Nat) ≠ 0 by decide)
                  show gJ _ _ _ _ _ _ _ [] _ _
                  exact gJ_post (m_loftF hf.1) (fun v h' q => Or.inl ⟨q.1, _, w1.e.lf, hf, (by decide : (6 : Nat) ≠ 0), q.2⟩)
          · exfalso; omega
      · rw [if_neg g3] at hr
        rw [hr]
        have hTV := hTL.tv hT0 (by omega)
        refine gj_aload_n (pc' := 105) dX11_loft_104 rfl rfl ?_
        refine gf_X11_91 (pc' := 108) dX11_loft_105 rfl (by first | rfl | assumption) rfl ?_
        rw [hL.1]
        refine gj_if_ne (pc' := 111) (tgt := 127) dX11_loft_108 (by decide) rfl (by omega) (fun c108 => ?_) (fun c108 => ?_)
        · exfalso; omega
        · refine gj_aload_n (pc' := 112) dX11_loft_111 rfl rfl ?_
          refine gf_X11_81 (pc' := 115) dX11_loft_112 rfl (by first | rfl | assumption) rfl ?_
          rw [h6.trans ht0]
          refine gj_if_eq (pc' := 118) (tgt := 127) dX11_loft_115 (by decide) rfl (by omega) (fun c115 => ?_) (fun c115 => ?_)
          · refine gj_aload_n (pc' := 128) dX11_loft_127 rfl rfl ?_
            refine gf_X11_91 (pc' := 131) dX11_loft_128 rfl (by first | rfl | assumption) rfl ?_
            rw [hL.1]
            refine gj_if_ne (pc' := 134) (tgt := 163) dX11_loft_131 (by decide) rfl (by omega) (fun c131 => ?_) (fun c131 => ?_)
            · exfalso; omega
            · refine gj_aload_n (pc' := 135) dX11_loft_134 rfl rfl ?_
              refine gf_X11_23 (pc' := 138) dX11_loft_135 rfl (by first | rfl | assumption) rfl ?_
              refine gj_iconst (pc' := 139) dX11_loft_138 rfl ?_
              refine gj_iald (pc' := 140) (j := 0) (by first | rfl | assumption) (by omega) (by omega) (by decide) dX11_loft_139 rfl ?_
              rw [hL.2.2 0 (by decide)]
              refine gj_if_eq (pc' := 143) (tgt := 153) dX11_loft_140 (by decide) rfl (by omega) (fun c140 => ?_) (fun c140 => ?_)
              · exfalso; omega
              · refine gj_aload_n (pc' := 144) dX11_loft_143 rfl rfl ?_
                refine gf_X11_23 (pc' := 147) dX11_loft_144 rfl (by first | rfl | assumption) rfl ?_
                refine gj_iconst (pc' := 148) dX11_loft_147 rfl ?_
                refine gj_iald (pc' := 149) (j := 3) (by first | rfl | assumption) (by omega) (by omega) (by decide) dX11_loft_148 rfl ?_
                refine gj_iconst (pc' := 150) dX11_loft_149 rfl ?_
                rw [hL.2.2 3 (by decide)]
                refine gj_icmp_ge (pc' := 153) (tgt := 163) dX11_loft_150 (by decide) rfl (by omega) (fun c150 => ?_) (fun c150 => ?_)
                · exact gJ_post (m_loftG (s := s) hL.1 hL.2.2 hTV) (fun v h' q => Or.inr ⟨g, q.1, q.2⟩)
                · exfalso; omega
          · exfalso; omega
    · rw [if_pos g2] at hr
      rw [hr]
      refine gj_aload_n (pc' := 105) dX11_loft_104 rfl rfl ?_
      refine gf_X11_91 (pc' := 108) dX11_loft_105 rfl (by first | rfl | assumption) rfl ?_
      rw [hL.1]
      refine gj_if_ne (pc' := 111) (tgt := 127) dX11_loft_108 (by decide) rfl (by omega) (fun c108 => ?_) (fun c108 => ?_)
      · exfalso; omega
      · refine gj_aload_n (pc' := 112) dX11_loft_111 rfl rfl ?_
        refine gf_X11_81 (pc' := 115) dX11_loft_112 rfl (by first | rfl | assumption) rfl ?_
        rw [h6]
        have ht0 : tkM (tSr B e r.2.1) ≠ 0 := fun z => g2 (htk.2.2.2.1.mp z)
        refine gj_if_eq (pc' := 118) (tgt := 127) dX11_loft_115 (by decide) rfl (by omega) (fun c115 => ?_) (fun c115 => ?_)
        · exfalso; omega
        · refine gj_aload_n (pc' := 119) dX11_loft_118 rfl rfl ?_
          refine gj_iconst (pc' := 120) dX11_loft_119 rfl ?_
          refine gj_aload_n (pc' := 121) dX11_loft_120 rfl rfl ?_
          refine gf_X11_72 (pc' := 124) dX11_loft_121 rfl (by first | rfl | assumption) rfl ?_
          rw [hT.2.2.1]
          refine gc_X11_118 (pc' := 127) dX11_loft_124 rfl (m_wrong hL (k := 1) (by decide)) rfl (by first | rfl | assumption) (by decide) rfl (Nat.le_of_ble_eq_true rfl) (fun v9 h9 q9 => ?_)
          obtain ⟨rfl, w1, w2⟩ := q9
          have hf := w2.2 (show (1 : Nat) ≠ 0 by decide)
          show gJ _ _ _ _ _ _ _ [] _ _
          refine gj_aload_n (pc' := 128) dX11_loft_127 rfl rfl ?_
          refine gf_X11_91 (pc' := 131) dX11_loft_128 rfl (by first | rfl | assumption) rfl ?_
          rw [hf.1]
          refine gj_if_ne (pc' := 134) (tgt := 163) dX11_loft_131 (by decide) rfl (by omega) (fun c131 => ?_) (fun c131 => ?_)
          · exact gJ_post (m_loftF hf.1) (fun v h' q => Or.inl ⟨q.1, _, w1.e.lf, hf, (by decide : (1 : Nat) ≠ 0), q.2⟩)
          · exfalso; omega
  · have hf := hM.2 g
    rw [if_pos g] at hr
    rw [hr]
    refine gj_aload_n (pc' := 105) dX11_loft_104 rfl rfl ?_
    refine gf_X11_91 (pc' := 108) dX11_loft_105 rfl (by first | rfl | assumption) rfl ?_
    rw [hf.1]
    refine gj_if_ne (pc' := 111) (tgt := 127) dX11_loft_108 (by decide) rfl (by omega) (fun c108 => ?_) (fun c108 => ?_)
    · refine gj_aload_n (pc' := 128) dX11_loft_127 rfl rfl ?_
      refine gf_X11_91 (pc' := 131) dX11_loft_128 rfl (by first | rfl | assumption) rfl ?_
      rw [hf.1]
      refine gj_if_ne (pc' := 134) (tgt := 163) dX11_loft_131 (by decide) rfl (by omega) (fun c131 => ?_) (fun c131 => ?_)
      · exact gJ_post (m_loftF hf.1) (fun v h' q => Or.inl ⟨q.1, _, mlE.lf (mlE.rf h), hf, g, q.2⟩)
      · exfalso; omega
    · exfalso; omega
theorem prL_0 : prL (fun _ => 0) := ⟨NU_0, TL_0, fun _ => ⟨rfl, rfl, rfl, rfl⟩⟩
def lofQ (h : gH) (B : Nat → Nat) (n : Nat) (s : gSt) (a : Int) : Option Value → gH → Prop := fun v h' => (¬ (0 ≤ a ∧ a ≤ (n : Int)) → v = some (.int (zI (-1))) ∧ MS h h' ∧ h'.1 142 11 = 2) ∧ (∀ m : Nat, a = (m : Int) → m ≤ n → (rdR B m).1 ≠ 0 → v = some (.int (zI (-1))) ∧ h'.2 = h.2 ∧ (∀ o, o ≠ 142 → o ≠ 144 → o ≠ 146 → h'.1 o = h.1 o) ∧ (∀ k, k = 14 ∨ k = 20 ∨ k = 21 → h'.1 142 k = h.1 142 k) ∧ h'.1 142 0 = 0 ∧ h'.1 142 2 = 0 ∧ h'.1 142 9 = ((rdR B m).1 : Int) ∧ h'.1 142 10 = ((rdR B m).2.1 : Int) ∧ h'.1 142 11 = 4) ∧ (∀ m : Nat, a = (m : Int) → m ≤ n → (rdR B m).1 = 0 → v = some (.int (zI ((rdR B m).2.2 3 : Int))) ∧ h'.2 = h.2 ∧ (∀ o, o ≠ 142 → o ≠ 144 → o ≠ 145 → o ≠ 146 → o ≠ 147 → h'.1 o = h.1 o) ∧ h'.1 142 0 = 0 ∧ h'.1 142 2 = 0 ∧ h'.1 142 9 = 0 ∧ h'.1 142 11 = 0 ∧ MST h' (rdR B m).2.2 (stL (rdR B m).2.2 s))
theorem lofQ_of {h hq : gH} {B : Nat → Nat} {n m : Nat} {s : gSt} {v : Option Value} {h' : gH} (hm : m ≤ n) (e2 : hq.2 = h.2) (eo : ∀ o, o ≠ 142 → o ≠ 144 → o ≠ 146 → hq.1 o = h.1 o) (ek : ∀ k, k = 14 ∨ k = 20 ∨ k = 21 → hq.1 142 k = h.1 142 k) (z0 : hq.1 142 0 = 0) (z2 : hq.1 142 2 = 0) (z11 : hq.1 142 11 = 0) (z9 : (rdR B m).1 = 0 → hq.1 142 9 = 0) (q : (v = some (.int (zI (-1))) ∧ ∃ hp, lfE hq hp ∧ MF hp (rdR B m).1 (rdR B m).2.1 ∧ (rdR B m).1 ≠ 0 ∧ h' = gui hp 142 11 4) ∨ ((rdR B m).1 = 0 ∧ v = some (.int (zI ((rdR B m).2.2 3 : Int))) ∧ lgE hq h' (rdR B m).2.2 s)) : lofQ h B n s (m : Int) v h' := by
  refine ⟨fun z => by exfalso; omega, fun m' e1 hm' g => ?_, fun m' e1 hm' g => ?_⟩
  · have : m' = m := by omega
    subst this
    rcases q with ⟨a1, hp, a2, a3, a4, rfl⟩ | ⟨a1, _⟩
    · refine ⟨a1, by rw [← e2, ← a2.1]; rfl, fun o o1 o2 o3 => (gui_n o1).trans ((a2.2.1 o o1 o2 o3).trans (eo o o1 o2 o3)), fun k hk => ?_, ?_, ?_, ?_, ?_, ?_⟩
      · rw [gui_s, up1_n (by omega), a2.2.2 k (by omega)]; exact ek k hk
      · rw [gui_s, up1_n (by decide), a2.2.2 0 (by decide)]; exact z0
      · rw [gui_s, up1_n (by decide), a2.2.2 2 (by decide)]; exact z2
      · rw [gui_s, up1_n (by decide)]; exact a3.2.1
      · rw [gui_s, up1_n (by decide)]; exact a3.2.2
      · rw [gui_s, up1_s]
    · exact absurd a1 g
  · have : m' = m := by omega
    subst this
    rcases q with ⟨_, hp, _, _, a4, _⟩ | ⟨_, a1, a2⟩
    · exact absurd g a4
    · exact ⟨a1, a2.1.trans e2, fun o o1 o2 o3 o4 o5 => (a2.2.1 o o1 o3 o5).trans (eo o o1 o2 o4), by rw [a2.2.2.1 0 (by decide) (by decide) (by decide)]; exact z0, by rw [a2.2.2.1 2 (by decide) (by decide) (by decide)]; exact z2, by rw [a2.2.2.1 9 (by decide) (by decide) (by decide)]; exact z9 g, by rw [a2.2.2.1 11 (by decide) (by decide) (by decide)]; exact z11, a2.2.2.2⟩
theorem rdR_9 {B : Nat → Nat} {e : Nat} (g : (rdR B e).1 = 0) : (rdS B e 900).1 = 0 := by
  have hr : rdR B e = if (rdS B e 900).1 ≠ 0 then rdS B e 900 else if tSr B e (rdS B e 900).2.1 ≠ 0 then (1, tS B e (rdS B e 900).2.1, fun _ => 0) else if (rdS B e 900).2.2 3 < 2 then (6, tS B e (rdS B e 900).2.1, fun _ => 0) else rdS B e 900 := rfl
  by_cases q : (rdS B e 900).1 = 0
  · exact q
  · rw [if_pos q] at hr
    rw [hr] at g
    exact absurd g q
theorem m_loft {h : gH} {a : Int} {B : Nat → Nat} {n : Nat} {s : gSt} (hR : RM h n B) (ha : inB a) (hTN : ∀ m : Nat, a = (m : Int) → m ≤ n → tlS B m 900) : gSp 12 yX11_loft cX11_loft 3 (some .int) [.ref 142, .int (zI a)] h (lofQ h B n s a) := by
  obtain ⟨r1, r2, r3⟩ := id hR
  unfold inB at ha
  have hT2 : (mG h).1 142 2 = (n : Int) := r2
  refine gSp_of (by decide +kernel) (Nat.le_of_ble_eq_true rfl) ?_
  show gJ RX11 cX11_loft 3 (some .int) _ 0 [some (.ref 142), some (.int (zI a)), none] [] _ _
  refine gj_aload_n (pc' := 1) dX11_loft_0 rfl rfl ?_
  refine gc_X11_153 (pc' := 4) dX11_loft_1 rfl (m_good) rfl (by first | rfl | assumption) (by decide) rfl (Nat.le_of_ble_eq_true rfl) (fun v9 h9 q9 => ?_)
  obtain ⟨rfl, rfl⟩ := q9
  show gJ _ _ _ _ _ _ _ [] _ _
  refine gj_iload_n (pc' := 5) dX11_loft_4 rfl rfl ?_
  refine gj_iconst (pc' := 6) dX11_loft_5 rfl ?_
  refine gj_aload_n (pc' := 7) dX11_loft_6 rfl rfl ?_
  refine gf_X11_59 (pc' := 10) dX11_loft_7 rfl (by first | rfl | assumption) rfl ?_
  rw [hT2]
  refine gr_X11_138 (pc' := 13) dX11_loft_10 rfl (m_in ha (by omega) (by omega)) rfl (by decide) rfl (Nat.le_of_ble_eq_true rfl) ?_
  first | refine gj_ifB_ne (pc' := 16) (tgt := 22) dX11_loft_13 (by decide) rfl (fun c13 => ?_) (fun c13 => ?_) | refine gj_if_ne (pc' := 16) (tgt := 22) dX11_loft_13 (by decide) rfl (by omega) (fun c13 => ?_) (fun c13 => ?_)
  · first | have g13 := of_decide_eq_true c13 | have g13 := of_decide_eq_false c13 | skip
    obtain ⟨m, rfl⟩ : ∃ m : Nat, a = (m : Int) := ⟨a.toNat, by omega⟩
    have hTN9 := hTN m rfl (by omega)
    refine gj_aload_n (pc' := 23) dX11_loft_22 rfl rfl ?_
    refine gj_iconst (pc' := 24) dX11_loft_23 rfl ?_
    refine gp_X11_59 (pc' := 27) dX11_loft_24 rfl (by first | rfl | assumption) rfl ?_
    refine gj_aload_n (pc' := 28) dX11_loft_27 rfl rfl ?_
    refine gj_iconst (pc' := 29) dX11_loft_28 rfl ?_
    refine gp_X11_95 (pc' := 32) dX11_loft_29 rfl (by first | rfl | assumption) rfl ?_
    refine gj_aload_n (pc' := 33) dX11_loft_32 rfl rfl ?_
    refine gj_iconst (pc' := 34) dX11_loft_33 rfl ?_
    refine gp_X11_91 (pc' := 37) dX11_loft_34 rfl (by first | exact Or.inl rfl | exact Or.inr rfl | assumption) (by first | rfl | assumption) rfl ?_
    obtain ⟨h0, hh0⟩ : ∃ x, x = gui (gui (gui (mG h) 142 2 0) 142 9 0) 142 13 0 := ⟨_, rfl⟩
    rw [← hh0]
    have w2 : h0.2 = h.2 := by rw [hh0]; rfl
    have wo : ∀ o, o ≠ 142 → h0.1 o = h.1 o := fun o ho => by
      rw [hh0, gui_n ho, gui_n ho, gui_n ho]
      exact (gui_n ho).trans (gui_n ho)
    have wk : ∀ k, k = 14 ∨ k = 20 ∨ k = 21 → h0.1 142 k = h.1 142 k := fun k hk => by
      rw [hh0, gui_s, up1_n (by omega), gui_s, up1_n (by omega), gui_s, up1_n (by omega)]
      show (gui (gui h 142 0 0) 142 11 0).1 142 k = _
      rw [gui_s, up1_n (by omega), gui_s, up1_n (by omega)]
    have w13 : h0.1 142 13 = 0 := by rw [hh0]; rfl
    have w9 : h0.1 142 9 = 0 := by rw [hh0]; rfl
    have wz2 : h0.1 142 2 = 0 := by rw [hh0]; rfl
    have w11 : h0.1 142 11 = 0 := by rw [hh0]; rfl
    have w0 : h0.1 142 0 = 0 := by rw [hh0]; rfl
    clear hh0
    refine gj_iconst (pc' := 38) dX11_loft_37 rfl ?_
    refine gj_istore_n (pc' := 39) dX11_loft_38 rfl (by decide) ?_
    refine gJ_wk (gJ_fH0 (L := fun k  => [some (.ref 142), some (.int (zI (m : Int))), some (.int (zI (k : Int)))]) (I := fun k  hp => hp.2 = h0.2 ∧ (∀ o, o ≠ 146 → hp.1 o = h0.1 o) ∧ (∀ j, j < k → hp.1 146 j = 0)) (219) (fun k  hp hb_k iv_k ih_k => ?step_1) (0) (Nat.zero_le _)  _ ?iv0_1) ?ll0_1
    case ll0_1 =>
      repeat' (first | exact True.intro | with_reducible exact rfl | refine And.intro ?_ ?_ | refine vI ?_ | refine vL ?_)
      all_goals first | rfl | omega
    case iv0_1 =>
      exact ⟨rfl, fun _ _ => rfl, fun j hj => absurd hj (Nat.not_lt_zero j)⟩
    obtain ⟨i1, i2, i3⟩ := iv_k
    refine gj_iload_n (pc' := 40) dX11_loft_39 rfl rfl ?_
    refine gj_sipush (pc' := 43) dX11_loft_40 rfl (by decide) ?_
    refine gj_icmp_ge (pc' := 46) (tgt := 59) dX11_loft_43 (by decide) rfl (by omega) (fun c43 => ?_) (fun c43 => ?_)
    · refine gj_aload_n (pc' := 60) dX11_loft_59 rfl rfl ?_
      refine gj_iload_n (pc' := 61) dX11_loft_60 rfl rfl ?_
      refine gp_X11_62 (pc' := 64) dX11_loft_61 rfl (by first | rfl | assumption) rfl ?_
      refine gj_aload_n (pc' := 65) dX11_loft_64 rfl rfl ?_
      refine gj_iconst (pc' := 66) dX11_loft_65 rfl ?_
      refine gp_X11_65 (pc' := 69) dX11_loft_66 rfl (by first | rfl | assumption) rfl ?_
      refine gj_aload_n (pc' := 70) dX11_loft_69 rfl rfl ?_
      refine gc_X11_112 (pc' := 73) dX11_loft_70 rfl (m_next (B := B) (e := m) (p := 0) (h := gui (gui hp 142 3 (m : Int)) 142 5 0) ⟨by omega, by rw [gui_s, up1_n (by decide), gui_s, up1_s], fun j hj => ⟨(r3 j (by omega)).1, by rw [gui_n (by decide), gui_n (by decide), i2 143 (by decide), wo 143 (by decide)]; exact (r3 j (by omega)).2⟩⟩ (by rw [gui_s, up1_s]; rfl) (Nat.zero_le _)) rfl (by first | rfl | assumption) (by decide) rfl (Nat.le_of_ble_eq_true rfl) (fun v9 h9 q9 => ?_)
      obtain ⟨rfl, n1, n2⟩ := q9
      obtain ⟨ha', rfl⟩ : ∃ x, x = h9 := ⟨h9, rfl⟩
      have y2 : ha'.2 = h.2 := by rw [n1.1, ← w2, ← i1]; rfl
      have yo : ∀ o, o ≠ 142 → o ≠ 144 → o ≠ 146 → ha'.1 o = h.1 o := fun o o1 o2 o3 => by
        rw [n1.2.1 o o1 o2, gui_n o1, gui_n o1, i2 o o3, wo o o1]
      have yf : ∀ k, (k = 0 ∨ k = 2 ∨ 8 < k) → ha'.1 142 k = h0.1 142 k := fun k hk => by
        rw [n1.2.2 k (by omega), gui_s, up1_n (by omega), gui_s, up1_n (by omega), i2 142 (by decide)]
      have hL0 : ML ha' B m 0 (fun _ => 0) := by
        refine ⟨by rw [yf 13 (by decide)]; exact w13, n2, fun j hj => ?_⟩
        rw [n1.2.1 146 (by decide) (by decide), gui_n (by decide), gui_n (by decide)]
        exact i3 j (by omega)
      show gJ _ _ _ _ _ _ _ [] _ _
      refine gj_aload_n (pc' := 74) dX11_loft_73 rfl rfl ?_
      refine gc_X11_159 (pc' := 77) dX11_loft_74 rfl (m_readLine hL0 prL_0) rfl (by first | rfl | assumption) (by decide) rfl (Nat.le_of_ble_eq_true rfl) (fun v9 h9 q9 => ?_)
      obtain ⟨rfl, v1, v2⟩ := q9
      obtain ⟨hb, rfl⟩ : ∃ x, x = h9 := ⟨h9, rfl⟩
      show gJ _ _ _ _ _ _ _ [] _ _
      refine gJ_wk (gJ_fH0 (L := fun i  => [some (.ref 142), some (.int (zI (m : Int))), none]) (I := fun i  hp => mlE ha' hp ∧ MG hp B m (rdS B m i)) (900) (fun i  hp hb_i iv_i ih_i => ?step_2) (0) (Nat.zero_le _)  _ ?iv0_2) ?ll0_2
      case ll0_2 =>
        repeat' (first | exact True.intro | with_reducible exact rfl | refine And.intro ?_ ?_ | refine vI ?_ | refine vL ?_)
        all_goals first | rfl | omega
      case iv0_2 =>
        exact ⟨v1, v2⟩
      obtain ⟨j1, j2⟩ := iv_i
      have hfl : hp.1 142 13 = bI (decide ((rdS B m i).1 ≠ 0)) := (MG.mm j2).fl
      have hsr := tSr_le B m (rdS B m i).2.1
      have htk := tkM_2 hsr
      have fin : ∀ v h', ((v = some (.int (zI (-1))) ∧ ∃ hx, lfE hp hx ∧ MF hx (rdR B m).1 (rdR B m).2.1 ∧ (rdR B m).1 ≠ 0 ∧ h' = gui hx 142 11 4) ∨ ((rdR B m).1 = 0 ∧ v = some (.int (zI ((rdR B m).2.2 3 : Int))) ∧ lgE hp h' (rdR B m).2.2 s)) → (rdS B m 900).1 = (rdS B m i).1 → lofQ h B n s (m : Int) v h' := fun v h' q hs => lofQ_of (by omega) (j1.1.trans y2) (fun o o1 o2 o3 => (j1.2.1 o o1 o2 o3).trans (yo o o1 o2 o3)) (fun k hk => by rw [j1.2.2.1 k (by omega), yf k (by omega)]; exact wk k hk) (by rw [j1.2.2.1 0 (by decide), yf 0 (by decide)]; exact w0) (by rw [j1.2.2.1 2 (by decide), yf 2 (by decide)]; exact wz2) (by rw [j1.2.2.1 11 (by decide), yf 11 (by decide)]; exact w11) (fun g => by
        have g9 := rdR_9 g
        rw [hs] at g9
        rw [(j1.2.2.2 (j2.1 g9).1).2, yf 9 (by decide)]
        exact w9) q
      refine gj_aload_n (pc' := 78) dX11_loft_77 rfl rfl ?_
      refine gf_X11_91 (pc' := 81) dX11_loft_78 rfl (by first | rfl | assumption) rfl ?_
      rw [hfl]
      first | refine gj_ifB_ne (pc' := 84) (tgt := 104) dX11_loft_81 (by decide) rfl (fun c81 => ?_) (fun c81 => ?_) | refine gj_if_ne (pc' := 84) (tgt := 104) dX11_loft_81 (by decide) rfl (by omega) (fun c81 => ?_) (fun c81 => ?_)
      · first | have g81 := of_decide_eq_true c81 | have g81 := of_decide_eq_false c81 | skip
        first
        | exact gJ_post (m_loftT (s := s) hb_i (fun z => g81 z.1) j2 hTN9) (fun v h' q => fin v h' q (congrArg Prod.fst (rdS_end hb_i (fun z => g81 z.1))))
        | exact gJ_post (m_loftT (s := s) hb_i (fun z => c90 (htk.2.2.1.mpr z.2)) j2 hTN9) (fun v h' q => fin v h' q (congrArg Prod.fst (rdS_end hb_i (fun z => c90 (htk.2.2.1.mpr z.2)))))
      · first | have g81 := of_decide_eq_true c81 | have g81 := of_decide_eq_false c81 | skip
        have g0 : (rdS B m i).1 = 0 := Decidable.of_not_not g81
        have hL := j2.1 g0
        have hgo := rdS_go i g0
        refine gj_aload_n (pc' := 85) dX11_loft_84 rfl rfl ?_
        refine gf_X11_81 (pc' := 88) dX11_loft_85 rfl (by first | rfl | assumption) rfl ?_
        rw [hL.2.1.2.2.2.2.1]
        refine gj_bipush (pc' := 90) dX11_loft_88 rfl (by decide) ?_
        refine gj_icmp_ne (pc' := 93) (tgt := 104) dX11_loft_90 (by decide) rfl (by omega) (fun c90 => ?_) (fun c90 => ?_)
        · first
          | exact gJ_post (m_loftT (s := s) hb_i (fun z => g81 z.1) j2 hTN9) (fun v h' q => fin v h' q (congrArg Prod.fst (rdS_end hb_i (fun z => g81 z.1))))
          | exact gJ_post (m_loftT (s := s) hb_i (fun z => c90 (htk.2.2.1.mpr z.2)) j2 hTN9) (fun v h' q => fin v h' q (congrArg Prod.fst (rdS_end hb_i (fun z => c90 (htk.2.2.1.mpr z.2)))))
        · have hs3 : tSr B m (rdS B m i).2.1 = 3 := htk.2.2.1.mp (by omega)
          have hlt : i < 900 := by
            have := tSr_lt hgo.1 hs3
            have := hgo.2.2 hs3
            omega
          refine gj_aload_n (pc' := 94) dX11_loft_93 rfl rfl ?_
          refine gc_X11_112 (pc' := 97) dX11_loft_94 rfl (m_nextL hL) rfl (by first | rfl | assumption) (by decide) rfl (Nat.le_of_ble_eq_true rfl) (fun v9 h9 q9 => ?_)
          obtain ⟨rfl, p1, p2⟩ := q9
          obtain ⟨hc, rfl⟩ : ∃ x, x = h9 := ⟨h9, rfl⟩
          show gJ _ _ _ _ _ _ _ [] _ _
          refine gj_aload_n (pc' := 98) dX11_loft_97 rfl rfl ?_
          refine gc_X11_159 (pc' := 101) dX11_loft_98 rfl (m_readLine p2 ⟨(hTN9 i hb_i g0).2, (hTN9 i hb_i g0).1, fun z => absurd z hgo.2.1⟩) rfl (by first | rfl | assumption) (by decide) rfl (Nat.le_of_ble_eq_true rfl) (fun v9 h9 q9 => ?_)
          obtain ⟨rfl, u1, u2⟩ := q9
          obtain ⟨hd, rfl⟩ : ∃ x, x = h9 := ⟨h9, rfl⟩
          show gJ _ _ _ _ _ _ _ [] _ _
          refine gj_goto (pc' := 77) dX11_loft_101 (by decide) ?_
          refine gJ_wk (ih_i  _ (by omega) ?iv_3) ?ll_3
          case ll_3 =>
            repeat' (first | exact True.intro | with_reducible exact rfl | refine And.intro ?_ ?_ | refine vI ?_ | refine vL ?_)
            all_goals omega
          exact ⟨j1.tr (p1.e.tr u1), by rw [rdS_t ⟨g0, hs3⟩]; exact u2⟩
    · refine gj_aload_n (pc' := 47) dX11_loft_46 rfl rfl ?_
      refine gf_X11_23 (pc' := 50) dX11_loft_47 rfl (by first | rfl | assumption) rfl ?_
      refine gj_iload_n (pc' := 51) dX11_loft_50 rfl rfl ?_
      refine gj_iconst (pc' := 52) dX11_loft_51 rfl ?_
      refine gj_iast (pc' := 53) (j := k) (by first | rfl | assumption) (by omega) (by omega) (by decide) dX11_loft_52 rfl ?_
      refine gj_iinc (pc' := 56) dX11_loft_53 rfl rfl (by decide) ?_
      refine gj_goto (pc' := 39) dX11_loft_56 (by decide) ?_
      refine gJ_wk (ih_k  _ (by omega) ?iv_4) ?ll_4
      case ll_4 =>
        repeat' (first | exact True.intro | with_reducible exact rfl | refine And.intro ?_ ?_ | refine vI ?_ | refine vL ?_)
        all_goals omega
      refine ⟨i1, fun o ho => (gui_n ho).trans (i2 o ho), fun j hj => ?_⟩
      rw [gui_s]
      by_cases q : j = k
      · rw [q, up1_s]
      · rw [up1_n q]
        exact i3 j (by omega)
  · first | have g13 := of_decide_eq_true c13 | have g13 := of_decide_eq_false c13 | skip
    refine gj_aload_n (pc' := 17) dX11_loft_16 rfl rfl ?_
    refine gj_iconst (pc' := 18) dX11_loft_17 rfl ?_
    refine gc_X11_156 (pc' := 21) dX11_loft_18 rfl (m_no) rfl (by first | rfl | assumption) (by decide) rfl (Nat.le_of_ble_eq_true rfl) (fun v9 h9 q9 => ?_)
    obtain ⟨rfl, rfl⟩ := q9
    show gJ _ _ _ _ _ _ _ (.int (zI (-1)) :: _) _ _
    refine gj_iret rfl dX11_loft_21 ?_
    exact ⟨fun _ => ⟨rfl, MS.no h 2, by rw [gui_s, up1_s]⟩, fun m e1 e2 => by exfalso; omega, fun m e1 e2 => by exfalso; omega⟩
