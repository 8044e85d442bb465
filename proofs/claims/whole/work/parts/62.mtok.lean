/-! TOKENS: the model -/
def TM (h : gH) (B : Nat → Nat) (e : Nat) : Prop := e ≤ 900 ∧ h.1 142 3 = (e : Int) ∧ ∀ j, j < e → B j < 256 ∧ h.1 143 j = (B j : Int)
/-- what a step of the model's leaves -/
def mpE (h h' : gH) : Prop := h'.2 = h.2 ∧ (∀ o, o ≠ 142 → o ≠ 144 → h'.1 o = h.1 o) ∧ (∀ k, (k < 4 ∨ 8 < k) → h'.1 142 k = h.1 142 k)
theorem mpE.tr {h h1 h2 : gH} (a : mpE h h1) (b : mpE h1 h2) : mpE h h2 := ⟨b.1.trans a.1, fun o o1 o2 => (b.2.1 o o1 o2).trans (a.2.1 o o1 o2), fun k hk => (b.2.2 k hk).trans (a.2.2 k hk)⟩
theorem mpE.rf (h : gH) : mpE h h := ⟨rfl, fun _ _ _ => rfl, fun _ _ => rfl⟩
theorem mpE.put {h : gH} {k : Nat} {x : Int} (hk : 4 ≤ k ∧ k ≤ 8) : mpE h (gui h 142 k x) := ⟨rfl, fun o o1 _ => gui_n o1, fun i hi => by rw [gui_s, up1_n (by omega)]⟩
theorem mpE.let {h : gH} {k : Nat} {x : Int} : mpE h (gui h 144 k x) := ⟨rfl, fun o _ o2 => gui_n o2, fun i _ => by rw [gui_n (by decide)]⟩
theorem TM.to {h h' : gH} {B : Nat → Nat} {e : Nat} (a : TM h B e) (q : mpE h h') : TM h' B e := ⟨a.1, (q.2.2 3 (by decide)).trans a.2.1, fun j hj => ⟨(a.2.2 j hj).1, by rw [q.2.1 143 (by decide) (by decide)]; exact (a.2.2 j hj).2⟩⟩
def seV (B : Nat → Nat) (e k : Nat) : Int := if k < e then (B k : Int) else -1
theorem m_see {h : gH} {B : Nat → Nat} {e k : Nat} (hM : TM h B e) (hk : k ≤ 2000) : gSp 1 yX11_see cX11_see 2 (some .int) [.ref 142, .int (zI (k : Int))] h (gR (.int (zI (seV B e k))) h) := by
  obtain ⟨m1, m2, m3⟩ := hM
  refine gSp_of (by decide +kernel) (Nat.le_of_ble_eq_true rfl) ?_
  show gJ RX11 cX11_see 2 (some .int) _ 0 [some (.ref 142), some (.int (zI (k : Int)))] [] _ _
  refine gj_iload_n (pc' := 1) dX11_see_0 rfl rfl ?_
  refine gj_aload_n (pc' := 2) dX11_see_1 rfl rfl ?_
  refine gf_X11_62 (pc' := 5) dX11_see_2 rfl (by first | rfl | assumption) rfl ?_
  rw [m2]
  refine gj_icmp_ge (pc' := 8) (tgt := 17) dX11_see_5 (by decide) rfl (by omega) (fun c5 => ?_) (fun c5 => ?_)
  · refine gj_iconst (pc' := 18) dX11_see_17 rfl ?_
    refine gj_iret rfl dX11_see_18 ?_
    first
    | (exact gR_i (by unfold seV; rw [if_pos (by omega)]))
    | (exact gR_i (by unfold seV; rw [if_neg (by omega)]))
  · refine gj_aload_n (pc' := 9) dX11_see_8 rfl rfl ?_
    refine gf_X11_7 (pc' := 12) dX11_see_9 rfl (by first | rfl | assumption) rfl ?_
    refine gj_iload_n (pc' := 13) dX11_see_12 rfl rfl ?_
    refine gj_iald (pc' := 14) (j := k) (by first | rfl | assumption) (by omega) (by omega) (by decide) dX11_see_13 rfl ?_
    rw [(m3 k (by omega)).2]
    refine gj_goto (pc' := 18) dX11_see_14 (by decide) ?_
    refine gj_iret rfl dX11_see_18 ?_
    first
    | (exact gR_i (by unfold seV; rw [if_pos (by omega)]))
    | (exact gR_i (by unfold seV; rw [if_neg (by omega)]))
theorem m_isSmall {h : gH} {c : Int} (hc : -1 ≤ c ∧ c ≤ 255) : gSp 1 yX11_isSmall cX11_isSmall 1 (some .boolean) [.int (zI c)] h (gR (.int (zI (bI (decide (97 ≤ c ∧ c ≤ 122))))) h) := by
  refine gSp_of (by decide +kernel) (Nat.le_of_ble_eq_true rfl) ?_
  show gJ RX11 cX11_isSmall 1 (some .boolean) _ 0 [some (.int (zI c))] [] _ _
  refine gj_iload_n (pc' := 1) dX11_isSmall_0 rfl rfl ?_
  refine gj_bipush (pc' := 3) dX11_isSmall_1 rfl (by decide) ?_
  refine gj_icmp_lt (pc' := 6) (tgt := 16) dX11_isSmall_3 (by decide) rfl (by omega) (fun c3 => ?_) (fun c3 => ?_)
  · refine gj_iconst (pc' := 17) dX11_isSmall_16 rfl ?_
    refine gj_zret rfl (by first | rfl | exact gnZ _ | assumption) dX11_isSmall_17 ?_
    first | exact gR_t (by simp; omega) | exact gR_f (by simp; omega)
  · refine gj_iload_n (pc' := 7) dX11_isSmall_6 rfl rfl ?_
    refine gj_bipush (pc' := 9) dX11_isSmall_7 rfl (by decide) ?_
    refine gj_icmp_gt (pc' := 12) (tgt := 16) dX11_isSmall_9 (by decide) rfl (by omega) (fun c9 => ?_) (fun c9 => ?_)
    · refine gj_iconst (pc' := 17) dX11_isSmall_16 rfl ?_
      refine gj_zret rfl (by first | rfl | exact gnZ _ | assumption) dX11_isSmall_17 ?_
      first | exact gR_t (by simp; omega) | exact gR_f (by simp; omega)
    · refine gj_iconst (pc' := 13) dX11_isSmall_12 rfl ?_
      refine gj_goto (pc' := 17) dX11_isSmall_13 (by decide) ?_
      refine gj_zret rfl (by first | rfl | exact gnZ _ | assumption) dX11_isSmall_17 ?_
      first | exact gR_t (by simp; omega) | exact gR_f (by simp; omega)
theorem m_isDigit {h : gH} {c : Int} (hc : -1 ≤ c ∧ c ≤ 255) : gSp 1 yX11_isDigit cX11_isDigit 1 (some .boolean) [.int (zI c)] h (gR (.int (zI (bI (decide (48 ≤ c ∧ c ≤ 57))))) h) := by
  refine gSp_of (by decide +kernel) (Nat.le_of_ble_eq_true rfl) ?_
  show gJ RX11 cX11_isDigit 1 (some .boolean) _ 0 [some (.int (zI c))] [] _ _
  refine gj_iload_n (pc' := 1) dX11_isDigit_0 rfl rfl ?_
  refine gj_bipush (pc' := 3) dX11_isDigit_1 rfl (by decide) ?_
  refine gj_icmp_lt (pc' := 6) (tgt := 16) dX11_isDigit_3 (by decide) rfl (by omega) (fun c3 => ?_) (fun c3 => ?_)
  · refine gj_iconst (pc' := 17) dX11_isDigit_16 rfl ?_
    refine gj_zret rfl (by first | rfl | exact gnZ _ | assumption) dX11_isDigit_17 ?_
    first | exact gR_t (by simp; omega) | exact gR_f (by simp; omega)
  · refine gj_iload_n (pc' := 7) dX11_isDigit_6 rfl rfl ?_
    refine gj_bipush (pc' := 9) dX11_isDigit_7 rfl (by decide) ?_
    refine gj_icmp_gt (pc' := 12) (tgt := 16) dX11_isDigit_9 (by decide) rfl (by omega) (fun c9 => ?_) (fun c9 => ?_)
    · refine gj_iconst (pc' := 17) dX11_isDigit_16 rfl ?_
      refine gj_zret rfl (by first | rfl | exact gnZ _ | assumption) dX11_isDigit_17 ?_
      first | exact gR_t (by simp; omega) | exact gR_f (by simp; omega)
    · refine gj_iconst (pc' := 13) dX11_isDigit_12 rfl ?_
      refine gj_goto (pc' := 17) dX11_isDigit_13 (by decide) ?_
      refine gj_zret rfl (by first | rfl | exact gnZ _ | assumption) dX11_isDigit_17 ?_
      first | exact gR_t (by simp; omega) | exact gR_f (by simp; omega)
def tkM (s : Nat) : Int := if s = 0 then 0 else if s = 1 then 2 else if s = 2 then 3 else if s = 3 then 59 else 1
def MTk (h : gH) (B : Nat → Nat) (e p : Nat) : Prop := TM h B e ∧ p ≤ e ∧ h.1 142 4 = (tS B e p : Int) ∧ h.1 142 5 = (tEn B e p : Int) ∧ h.1 142 6 = tkM (tSr B e p) ∧ (tSr B e p = 1 → h.1 142 8 = (tLn B e p : Int) ∧ ∀ i, i < tLn B e p → h.1 144 i = (B (tS B e p + i) : Int)) ∧ (tSr B e p = 2 → h.1 142 7 = (tWh B e p : Int))
theorem m_next {h : gH} {B : Nat → Nat} {e p : Nat} (hM : TM h B e) (h5 : h.1 142 5 = (p : Int)) (hpe : p ≤ e) : gSp 3 yX11_next cX11_next 4 none [.ref 142] h (fun v h' => v = none ∧ mpE h h' ∧ MTk h' B e p) := by
  have he := hM.1
  have hin := tS_in (B := B) hpe
  have hse := fun k => show seV B e k = if k < e then (B k : Int) else -1 from rfl
  have hsi : ∀ k, (k < e ∧ seV B e k = (B k : Int) ∧ B k < 256) ∨ (e ≤ k ∧ seV B e k = -1) := fun k => by
    rcases Nat.lt_or_ge k e with q | q
    · exact Or.inl ⟨q, by rw [hse, if_pos q], (hM.2.2 k q).1⟩
    · exact Or.inr ⟨q, by rw [hse, if_neg (by omega)]⟩
  have hso1 : ∀ b, soB b = 1 ↔ 97 ≤ b ∧ b ≤ 122 := fun b => by unfold soB; (repeat' split) <;> omega
  have hso2 : ∀ b, soB b = 2 ↔ 48 ≤ b ∧ b ≤ 57 := fun b => by unfold soB; (repeat' split) <;> omega
  have hso3 : ∀ b, soB b = 3 ↔ b = 59 := fun b => by unfold soB; (repeat' split) <;> omega
  have hso4 : ∀ b, soB b ≤ 4 ∧ 1 ≤ soB b := fun b => by unfold soB; (repeat' split) <;> omega
  refine gSp_of (by decide +kernel) (Nat.le_of_ble_eq_true rfl) ?_
  show gJ RX11 cX11_next 4 none _ 0 [some (.ref 142), none, none, none] [] _ _
  refine gj_aload_n (pc' := 1) dX11_next_0 rfl rfl ?_
  refine gf_X11_65 (pc' := 4) dX11_next_1 rfl (by first | rfl | assumption) rfl ?_
  rw [h5]
  refine gj_istore_n (pc' := 5) dX11_next_4 rfl (by decide) ?_
  refine gJ_wk (gJ_fH0 (L := fun j  => [some (.ref 142), some (.int (zI ((p + j : Nat) : Int))), none, none]) (I := fun j  hp => hp = h ∧ tS B e p = tS B e (p + j)) (e - p) (fun j  hp hb_j iv_j ih_j => ?step_1) (0) (Nat.zero_le _)  _ ?iv0_1) ?ll0_1
  case ll0_1 =>
    repeat' (first | exact True.intro | with_reducible exact rfl | refine And.intro ?_ ?_ | refine vI ?_ | refine vL ?_)
    all_goals first | rfl | omega
  case iv0_1 =>
    exact ⟨rfl, rfl⟩
  obtain ⟨rfl, i6⟩ := iv_j
  obtain ⟨h0, rfl⟩ : ∃ x, x = hp := ⟨hp, rfl⟩
  have hs0 := hsi (p + j)
  refine gj_aload_n (pc' := 6) dX11_next_5 rfl rfl ?_
  refine gj_iload_n (pc' := 7) dX11_next_6 rfl rfl ?_
  refine gr_X11_68 (pc' := 10) dX11_next_7 rfl (m_see hM (by omega)) rfl (by first | rfl | assumption) (by decide) rfl (Nat.le_of_ble_eq_true rfl) ?_
  refine gj_bipush (pc' := 12) dX11_next_10 rfl (by decide) ?_
  refine gj_icmp_ne (pc' := 15) (tgt := 21) dX11_next_12 (by decide) rfl (by omega) (fun c12 => ?_) (fun c12 => ?_)
  · have hS : tS B e p = p + j := by
      rw [i6]
      apply tS_f
      omega
    obtain ⟨sv, hsv⟩ : ∃ sv, sv = p + j := ⟨_, rfl⟩
    rw [← hsv] at hS hs0 ⊢
    have hso : tSo B e p = if sv < e then soB (B sv) else 0 := by unfold tSo; rw [hS]
    have hen : tEn B e p = if tSo B e p = 1 ∨ tSo B e p = 2 then tR B e (tSo B e p) sv else min (sv + 1) e := by unfold tEn; rw [hS]
    have hln : tLn B e p = tEn B e p - sv := by unfold tLn; rw [hS]
    have hsr : tSr B e p = if (tSo B e p = 1 ∧ 8 < tLn B e p) ∨ (tSo B e p = 2 ∧ 3 < tLn B e p) then 4 else tSo B e p := rfl
    have hwh : tWh B e p = whN (fun i => B (sv + i)) (tLn B e p) := by unfold tWh; rw [hS]
    have hsl : sv ≤ e := by omega
    have o1 := hso1 (B sv)
    have o2 := hso2 (B sv)
    have o3 := hso3 (B sv)
    have o4 := hso4 (B sv)
    refine gj_aload_n (pc' := 22) dX11_next_21 rfl rfl ?_
    refine gj_iload_n (pc' := 23) dX11_next_22 rfl rfl ?_
    refine gp_X11_72 (pc' := 26) dX11_next_23 rfl (by first | rfl | assumption) rfl ?_
    refine gj_aload_n (pc' := 27) dX11_next_26 rfl rfl ?_
    refine gj_iload_n (pc' := 28) dX11_next_27 rfl rfl ?_
    refine gr_X11_68 (pc' := 31) dX11_next_28 rfl (m_see (hM.to (mpE.put (by decide))) (by omega)) rfl (by first | rfl | assumption) (by decide) rfl (Nat.le_of_ble_eq_true rfl) ?_
    refine gj_istore_n (pc' := 32) dX11_next_31 rfl (by decide) ?_
    refine gj_aload_n (pc' := 33) dX11_next_32 rfl rfl ?_
    refine gj_iconst (pc' := 34) dX11_next_33 rfl ?_
    refine gp_X11_75 (pc' := 37) dX11_next_34 rfl (by first | rfl | assumption) rfl ?_
    refine gj_aload_n (pc' := 38) dX11_next_37 rfl rfl ?_
    refine gj_iconst (pc' := 39) dX11_next_38 rfl ?_
    refine gp_X11_78 (pc' := 42) dX11_next_39 rfl (by first | rfl | assumption) rfl ?_
    obtain ⟨hg, hhg⟩ : ∃ x, x = gui (gui (gui h0 142 4 (sv : Int)) 142 8 0) 142 7 0 := ⟨_, rfl⟩
    rw [← hhg]
    have hcg : mpE h0 hg := by rw [hhg]; exact (mpE.put (by decide)).tr ((mpE.put (by decide)).tr (mpE.put (by decide)))
    have g4 : hg.1 142 4 = (sv : Int) := by rw [hhg]; rfl
    have g8 : hg.1 142 8 = 0 := by rw [hhg]; rfl
    have g7 : hg.1 142 7 = 0 := by rw [hhg]; rfl
    clear hhg
    have hMg := hM.to hcg
    refine gj_iload_n (pc' := 43) dX11_next_42 rfl rfl ?_
    refine gj_iconst (pc' := 44) dX11_next_43 rfl ?_
    refine gj_icmp_ne (pc' := 47) (tgt := 60) dX11_next_44 (by decide) rfl (by omega) (fun c44 => ?_) (fun c44 => ?_)
    · refine gj_iload_n (pc' := 61) dX11_next_60 rfl rfl ?_
      refine gr_X11_84 (pc' := 64) dX11_next_61 rfl (m_isSmall (by omega)) rfl (by decide) rfl (Nat.le_of_ble_eq_true rfl) ?_
      first | refine gj_ifB_eq (pc' := 67) (tgt := 143) dX11_next_64 (by decide) rfl (fun c64 => ?_) (fun c64 => ?_) | refine gj_if_eq (pc' := 67) (tgt := 143) dX11_next_64 (by decide) rfl (by omega) (fun c64 => ?_) (fun c64 => ?_)
      · first | have g64 := of_decide_eq_true c64 | have g64 := of_decide_eq_false c64 | skip
        refine gj_iload_n (pc' := 144) dX11_next_143 rfl rfl ?_
        refine gr_X11_88 (pc' := 147) dX11_next_144 rfl (m_isDigit (by omega)) rfl (by decide) rfl (Nat.le_of_ble_eq_true rfl) ?_
        first | refine gj_ifB_eq (pc' := 150) (tgt := 219) dX11_next_147 (by decide) rfl (fun c147 => ?_) (fun c147 => ?_) | refine gj_if_eq (pc' := 150) (tgt := 219) dX11_next_147 (by decide) rfl (by omega) (fun c147 => ?_) (fun c147 => ?_)
        · first | have g147 := of_decide_eq_true c147 | have g147 := of_decide_eq_false c147 | skip
          refine gj_aload_n (pc' := 220) dX11_next_219 rfl rfl ?_
          refine gj_iload_n (pc' := 221) dX11_next_220 rfl rfl ?_
          refine gj_iconst (pc' := 222) dX11_next_221 rfl ?_
          refine gj_iadd (pc' := 223) dX11_next_222 rfl ?_
          refine gp_X11_65 (pc' := 226) dX11_next_223 rfl (by first | rfl | assumption) rfl ?_
          refine gj_aload_n (pc' := 227) dX11_next_226 rfl rfl ?_
          refine gj_iload_n (pc' := 228) dX11_next_227 rfl rfl ?_
          refine gj_bipush (pc' := 230) dX11_next_228 rfl (by decide) ?_
          refine gj_icmp_ne (pc' := 233) (tgt := 237) dX11_next_230 (by decide) rfl (by omega) (fun c230 => ?_) (fun c230 => ?_)
          · refine gj_iconst (pc' := 238) dX11_next_237 rfl ?_
            refine gp_X11_81 (pc' := 241) dX11_next_238 rfl (by first | rfl | assumption) rfl ?_
            have w0 : sv < e := by omega
            have z : tSo B e p = soB (B sv) := by rw [hso, if_pos w0]
            have z12 : soB (B sv) ≠ 1 ∧ soB (B sv) ≠ 2 := by omega
            rw [z, if_neg (by omega)] at hen
            rw [z, if_neg (by omega)] at hsr
            refine gj_vret rfl dX11_next_241 ?_
            by_cases q8 : B sv = 59
            · have z3 : soB (B sv) = 3 := o3.mpr q8
              first
              | (exfalso; omega)
              | (have hc : mpE h0 (gui (gui hg 142 5 ((sv : Int) + 1)) 142 6 (seV B e sv)) := hcg.tr ((mpE.put (by decide)).tr (mpE.put (by decide)))
                 exact ⟨rfl, hc, hM.to hc, hpe, by rw [hS, gui_s, up1_n (by decide), gui_s, up1_n (by decide)]; exact g4, by rw [hen, gui_s, up1_n (by decide), gui_s, up1_s]; omega, by rw [hsr, z3, gui_s, up1_s]; show seV B e sv = 59; omega, fun q => by omega, fun q => by omega⟩)
            · have z3 : soB (B sv) = 4 := by omega
              first
              | (exfalso; omega)
              | (have hc : mpE h0 (gui (gui hg 142 5 ((sv : Int) + 1)) 142 6 1) := hcg.tr ((mpE.put (by decide)).tr (mpE.put (by decide)))
                 exact ⟨rfl, hc, hM.to hc, hpe, by rw [hS, gui_s, up1_n (by decide), gui_s, up1_n (by decide)]; exact g4, by rw [hen, gui_s, up1_n (by decide), gui_s, up1_s]; omega, by rw [hsr, z3, gui_s, up1_s]; rfl, fun q => by omega, fun q => by omega⟩)
          · refine gj_iload_n (pc' := 234) dX11_next_233 rfl rfl ?_
            refine gj_goto (pc' := 238) dX11_next_234 (by decide) ?_
            refine gp_X11_81 (pc' := 241) dX11_next_238 rfl (by first | rfl | assumption) rfl ?_
            have w0 : sv < e := by omega
            have z : tSo B e p = soB (B sv) := by rw [hso, if_pos w0]
            have z12 : soB (B sv) ≠ 1 ∧ soB (B sv) ≠ 2 := by omega
            rw [z, if_neg (by omega)] at hen
            rw [z, if_neg (by omega)] at hsr
            refine gj_vret rfl dX11_next_241 ?_
            by_cases q8 : B sv = 59
            · have z3 : soB (B sv) = 3 := o3.mpr q8
              first
              | (exfalso; omega)
              | (have hc : mpE h0 (gui (gui hg 142 5 ((sv : Int) + 1)) 142 6 (seV B e sv)) := hcg.tr ((mpE.put (by decide)).tr (mpE.put (by decide)))
                 exact ⟨rfl, hc, hM.to hc, hpe, by rw [hS, gui_s, up1_n (by decide), gui_s, up1_n (by decide)]; exact g4, by rw [hen, gui_s, up1_n (by decide), gui_s, up1_s]; omega, by rw [hsr, z3, gui_s, up1_s]; show seV B e sv = 59; omega, fun q => by omega, fun q => by omega⟩)
            · have z3 : soB (B sv) = 4 := by omega
              first
              | (exfalso; omega)
              | (have hc : mpE h0 (gui (gui hg 142 5 ((sv : Int) + 1)) 142 6 1) := hcg.tr ((mpE.put (by decide)).tr (mpE.put (by decide)))
                 exact ⟨rfl, hc, hM.to hc, hpe, by rw [hS, gui_s, up1_n (by decide), gui_s, up1_n (by decide)]; exact g4, by rw [hen, gui_s, up1_n (by decide), gui_s, up1_s]; omega, by rw [hsr, z3, gui_s, up1_s]; rfl, fun q => by omega, fun q => by omega⟩)
        · first | have g147 := of_decide_eq_true c147 | have g147 := of_decide_eq_false c147 | skip
          refine gj_iconst (pc' := 151) dX11_next_150 rfl ?_
          refine gj_istore_n (pc' := 152) dX11_next_151 rfl (by decide) ?_
          refine gJ_wk (gJ_fH0 (L := fun w  => [some (.ref 142), some (.int (zI ((sv + w : Nat) : Int))), some (.int (zI (seV B e sv))), some (.int (zI (w : Int)))]) (I := fun w  hp => sv < e ∧ soB (B sv) = 2 ∧ mpE h0 hp ∧ hp.1 142 4 = (sv : Int) ∧ hp.1 142 7 = (whN (fun i => B (sv + i)) (min w 3) : Int) ∧ tR B e 2 sv = tR B e 2 (sv + w)) (e - sv) (fun w  hp hb_w iv_w ih_w => ?step_2) (0) (Nat.zero_le _)  _ ?iv0_2) ?ll0_2
          case ll0_2 =>
            repeat' (first | exact True.intro | with_reducible exact rfl | refine And.intro ?_ ?_ | refine vI ?_ | refine vL ?_)
            all_goals first | rfl | omega
          case iv0_2 =>
            exact ⟨by omega, by omega, hcg, g4, g7, rfl⟩
          obtain ⟨w0, w1, w2, w3, w4, w5⟩ := iv_w
          have hMw := hM.to w2
          have hsw := hsi (sv + w)
          have ow := hso2 (B (sv + w))
          refine gj_aload_n (pc' := 153) dX11_next_152 rfl rfl ?_
          refine gj_iload_n (pc' := 154) dX11_next_153 rfl rfl ?_
          refine gr_X11_68 (pc' := 157) dX11_next_154 rfl (m_see hMw (by omega)) rfl (by first | rfl | assumption) (by decide) rfl (Nat.le_of_ble_eq_true rfl) ?_
          refine gr_X11_88 (pc' := 160) dX11_next_157 rfl (m_isDigit (by omega)) rfl (by decide) rfl (Nat.le_of_ble_eq_true rfl) ?_
          first | refine gj_ifB_eq (pc' := 163) (tgt := 197) dX11_next_160 (by decide) rfl (fun c160 => ?_) (fun c160 => ?_) | refine gj_if_eq (pc' := 163) (tgt := 197) dX11_next_160 (by decide) rfl (by omega) (fun c160 => ?_) (fun c160 => ?_)
          · first | have g160 := of_decide_eq_true c160 | have g160 := of_decide_eq_false c160 | skip
            refine gj_aload_n (pc' := 198) dX11_next_197 rfl rfl ?_
            refine gj_iload_n (pc' := 199) dX11_next_198 rfl rfl ?_
            refine gp_X11_65 (pc' := 202) dX11_next_199 rfl (by first | rfl | assumption) rfl ?_
            refine gj_aload_n (pc' := 203) dX11_next_202 rfl rfl ?_
            refine gj_iload_n (pc' := 204) dX11_next_203 rfl rfl ?_
            refine gj_iconst (pc' := 205) dX11_next_204 rfl ?_
            refine gj_icmp_le (pc' := 208) (tgt := 212) dX11_next_205 (by decide) rfl (by omega) (fun c205 => ?_) (fun c205 => ?_)
            · refine gj_iconst (pc' := 213) dX11_next_212 rfl ?_
              refine gp_X11_81 (pc' := 216) dX11_next_213 rfl (by first | rfl | assumption) rfl ?_
              have hR : tR B e 2 sv = sv + w := by
                rw [w5]
                apply tR_f
                omega
              have z : tSo B e p = 2 := by rw [hso, if_pos w0]; exact w1
              rw [z, if_pos (Or.inr rfl), hR] at hen
              have hlw : tLn B e p = w := by omega
              refine gj_goto (pc' := 241) dX11_next_216 (by decide) ?_
              refine gj_vret rfl dX11_next_241 ?_
              by_cases q8 : 3 < w
              · rw [if_pos (by omega)] at hsr
                first
                | (exfalso; omega)
                | (have hc : mpE h0 (gui (gui hp 142 5 ((sv + w : Nat) : Int)) 142 6 1) := w2.tr ((mpE.put (by decide)).tr (mpE.put (by decide)))
                   exact ⟨rfl, hc, hM.to hc, hpe, by rw [hS, gui_s, up1_n (by decide), gui_s, up1_n (by decide)]; exact w3, by rw [hen, gui_s, up1_n (by decide), gui_s, up1_s], by rw [hsr, gui_s, up1_s]; rfl, fun q => by omega, fun q => by omega⟩)
              · rw [if_neg (by omega)] at hsr
                first
                | (exfalso; omega)
                | (have hc : mpE h0 (gui (gui hp 142 5 ((sv + w : Nat) : Int)) 142 6 3) := w2.tr ((mpE.put (by decide)).tr (mpE.put (by decide)))
                   exact ⟨rfl, hc, hM.to hc, hpe, by rw [hS, gui_s, up1_n (by decide), gui_s, up1_n (by decide)]; exact w3, by rw [hen, gui_s, up1_n (by decide), gui_s, up1_s], by rw [hsr, z, gui_s, up1_s]; rfl, fun q => by omega, fun _ => by rw [hwh, hlw, gui_s, up1_n (by decide), gui_s, up1_n (by decide), w4, show min w 3 = w by omega]⟩)
            · refine gj_iconst (pc' := 209) dX11_next_208 rfl ?_
              refine gj_goto (pc' := 213) dX11_next_209 (by decide) ?_
              refine gp_X11_81 (pc' := 216) dX11_next_213 rfl (by first | rfl | assumption) rfl ?_
              have hR : tR B e 2 sv = sv + w := by
                rw [w5]
                apply tR_f
                omega
              have z : tSo B e p = 2 := by rw [hso, if_pos w0]; exact w1
              rw [z, if_pos (Or.inr rfl), hR] at hen
              have hlw : tLn B e p = w := by omega
              refine gj_goto (pc' := 241) dX11_next_216 (by decide) ?_
              refine gj_vret rfl dX11_next_241 ?_
              by_cases q8 : 3 < w
              · rw [if_pos (by omega)] at hsr
                first
                | (exfalso; omega)
                | (have hc : mpE h0 (gui (gui hp 142 5 ((sv + w : Nat) : Int)) 142 6 1) := w2.tr ((mpE.put (by decide)).tr (mpE.put (by decide)))
                   exact ⟨rfl, hc, hM.to hc, hpe, by rw [hS, gui_s, up1_n (by decide), gui_s, up1_n (by decide)]; exact w3, by rw [hen, gui_s, up1_n (by decide), gui_s, up1_s], by rw [hsr, gui_s, up1_s]; rfl, fun q => by omega, fun q => by omega⟩)
              · rw [if_neg (by omega)] at hsr
                first
                | (exfalso; omega)
                | (have hc : mpE h0 (gui (gui hp 142 5 ((sv + w : Nat) : Int)) 142 6 3) := w2.tr ((mpE.put (by decide)).tr (mpE.put (by decide)))
                   exact ⟨rfl, hc, hM.to hc, hpe, by rw [hS, gui_s, up1_n (by decide), gui_s, up1_n (by decide)]; exact w3, by rw [hen, gui_s, up1_n (by decide), gui_s, up1_s], by rw [hsr, z, gui_s, up1_s]; rfl, fun q => by omega, fun _ => by rw [hwh, hlw, gui_s, up1_n (by decide), gui_s, up1_n (by decide), w4, show min w 3 = w by omega]⟩)
          · first | have g160 := of_decide_eq_true c160 | have g160 := of_decide_eq_false c160 | skip
            refine gj_iload_n (pc' := 164) dX11_next_163 rfl rfl ?_
            refine gj_iconst (pc' := 165) dX11_next_164 rfl ?_
            refine gj_icmp_ge (pc' := 168) (tgt := 188) dX11_next_165 (by decide) rfl (by omega) (fun c165 => ?_) (fun c165 => ?_)
            · refine gj_iinc (pc' := 191) dX11_next_188 rfl rfl (by decide) ?_
              refine gj_iinc (pc' := 194) dX11_next_191 rfl rfl (by decide) ?_
              refine gj_goto (pc' := 152) dX11_next_194 (by decide) ?_
              refine gJ_wk (ih_w  _ (by omega) ?iv_3) ?ll_3
              case ll_3 =>
                repeat' (first | exact True.intro | with_reducible exact rfl | refine And.intro ?_ ?_ | refine vI ?_ | refine vL ?_)
                all_goals omega
              first
              | (refine ⟨w0, w1, w2.tr (mpE.put (by decide)), ?_, ?_, w5.trans (tR_t (by omega) (by omega))⟩
                 · rw [gui_s, up1_n (by decide)]; exact w3
                 · rw [gui_s, up1_s, show min (w + 1) 3 = min w 3 + 1 by omega, show min w 3 = w by omega]
                   show _ = ((whN (fun i => B (sv + i)) w * 10 + (B (sv + w) - 48) : Nat) : Int)
                   omega)
              | exact ⟨w0, w1, w2, w3, by rw [w4, show min (w + 1) 3 = min w 3 by omega], w5.trans (tR_t (by omega) (by omega))⟩
            · refine gj_aload_n (pc' := 169) dX11_next_168 rfl rfl ?_
              refine gj_bipush (pc' := 171) dX11_next_169 rfl (by decide) ?_
              refine gj_aload_n (pc' := 172) dX11_next_171 rfl rfl ?_
              refine gf_X11_78 (pc' := 175) dX11_next_172 rfl (by first | rfl | assumption) rfl ?_
              rw [w4]
              refine gj_imul (pc' := 176) dX11_next_175 rfl ?_
              refine gj_aload_n (pc' := 177) dX11_next_176 rfl rfl ?_
              refine gj_iload_n (pc' := 178) dX11_next_177 rfl rfl ?_
              refine gr_X11_68 (pc' := 181) dX11_next_178 rfl (m_see hMw (by omega)) rfl (by first | rfl | assumption) (by decide) rfl (Nat.le_of_ble_eq_true rfl) ?_
              refine gj_iadd (pc' := 182) dX11_next_181 rfl ?_
              refine gj_bipush (pc' := 184) dX11_next_182 rfl (by decide) ?_
              refine gj_isub (pc' := 185) dX11_next_184 rfl ?_
              refine gp_X11_78 (pc' := 188) dX11_next_185 rfl (by first | rfl | assumption) rfl ?_
              refine gj_iinc (pc' := 191) dX11_next_188 rfl rfl (by decide) ?_
              refine gj_iinc (pc' := 194) dX11_next_191 rfl rfl (by decide) ?_
              refine gj_goto (pc' := 152) dX11_next_194 (by decide) ?_
              refine gJ_wk (ih_w  _ (by omega) ?iv_4) ?ll_4
              case ll_4 =>
                repeat' (first | exact True.intro | with_reducible exact rfl | refine And.intro ?_ ?_ | refine vI ?_ | refine vL ?_)
                all_goals omega
              first
              | (refine ⟨w0, w1, w2.tr (mpE.put (by decide)), ?_, ?_, w5.trans (tR_t (by omega) (by omega))⟩
                 · rw [gui_s, up1_n (by decide)]; exact w3
                 · rw [gui_s, up1_s, show min (w + 1) 3 = min w 3 + 1 by omega, show min w 3 = w by omega]
                   show _ = ((whN (fun i => B (sv + i)) w * 10 + (B (sv + w) - 48) : Nat) : Int)
                   omega)
              | exact ⟨w0, w1, w2, w3, by rw [w4, show min (w + 1) 3 = min w 3 by omega], w5.trans (tR_t (by omega) (by omega))⟩
      · first | have g64 := of_decide_eq_true c64 | have g64 := of_decide_eq_false c64 | skip
        refine gJ_wk (gJ_fH0 (L := fun w  => [some (.ref 142), some (.int (zI ((sv + w : Nat) : Int))), some (.int (zI (seV B e sv))), none]) (I := fun w  hp => sv < e ∧ soB (B sv) = 1 ∧ mpE h0 hp ∧ hp.1 142 4 = (sv : Int) ∧ hp.1 142 8 = (w : Int) ∧ tR B e 1 sv = tR B e 1 (sv + w) ∧ (∀ i, i < w → i < 8 → hp.1 144 i = (B (sv + i) : Int))) (e - sv) (fun w  hp hb_w iv_w ih_w => ?step_5) (0) (Nat.zero_le _)  _ ?iv0_5) ?ll0_5
        case ll0_5 =>
          repeat' (first | exact True.intro | with_reducible exact rfl | refine And.intro ?_ ?_ | refine vI ?_ | refine vL ?_)
          all_goals first | rfl | omega
        case iv0_5 =>
          exact ⟨by omega, by omega, hcg, g4, g8, rfl, fun i hi => absurd hi (Nat.not_lt_zero i)⟩
        obtain ⟨w0, w1, w2, w3, w4, w5, w6⟩ := iv_w
        have hMw := hM.to w2
        have hsw := hsi (sv + w)
        have ow := hso1 (B (sv + w))
        refine gj_aload_n (pc' := 68) dX11_next_67 rfl rfl ?_
        refine gj_iload_n (pc' := 69) dX11_next_68 rfl rfl ?_
        refine gr_X11_68 (pc' := 72) dX11_next_69 rfl (m_see hMw (by omega)) rfl (by first | rfl | assumption) (by decide) rfl (Nat.le_of_ble_eq_true rfl) ?_
        refine gr_X11_84 (pc' := 75) dX11_next_72 rfl (m_isSmall (by omega)) rfl (by decide) rfl (Nat.le_of_ble_eq_true rfl) ?_
        first | refine gj_ifB_eq (pc' := 78) (tgt := 117) dX11_next_75 (by decide) rfl (fun c75 => ?_) (fun c75 => ?_) | refine gj_if_eq (pc' := 78) (tgt := 117) dX11_next_75 (by decide) rfl (by omega) (fun c75 => ?_) (fun c75 => ?_)
        · first | have g75 := of_decide_eq_true c75 | have g75 := of_decide_eq_false c75 | skip
          refine gj_aload_n (pc' := 118) dX11_next_117 rfl rfl ?_
          refine gj_iload_n (pc' := 119) dX11_next_118 rfl rfl ?_
          refine gp_X11_65 (pc' := 122) dX11_next_119 rfl (by first | rfl | assumption) rfl ?_
          refine gj_aload_n (pc' := 123) dX11_next_122 rfl rfl ?_
          refine gj_aload_n (pc' := 124) dX11_next_123 rfl rfl ?_
          refine gf_X11_75 (pc' := 127) dX11_next_124 rfl (by first | rfl | assumption) rfl ?_
          rw [gui_s, up1_n (by decide), w4]
          refine gj_bipush (pc' := 129) dX11_next_127 rfl (by decide) ?_
          refine gj_icmp_le (pc' := 132) (tgt := 136) dX11_next_129 (by decide) rfl (by omega) (fun c129 => ?_) (fun c129 => ?_)
          · refine gj_iconst (pc' := 137) dX11_next_136 rfl ?_
            refine gp_X11_81 (pc' := 140) dX11_next_137 rfl (by first | rfl | assumption) rfl ?_
            have hR : tR B e 1 sv = sv + w := by
              rw [w5]
              apply tR_f
              omega
            have z : tSo B e p = 1 := by rw [hso, if_pos w0]; exact w1
            rw [z, if_pos (Or.inl rfl), hR] at hen
            have hlw : tLn B e p = w := by omega
            refine gj_goto (pc' := 241) dX11_next_140 (by decide) ?_
            refine gj_vret rfl dX11_next_241 ?_
            by_cases q8 : 8 < w
            · rw [if_pos (by omega)] at hsr
              first
              | (exfalso; omega)
              | (have hc : mpE h0 (gui (gui hp 142 5 ((sv + w : Nat) : Int)) 142 6 1) := w2.tr ((mpE.put (by decide)).tr (mpE.put (by decide)))
                 exact ⟨rfl, hc, hM.to hc, hpe, by rw [hS, gui_s, up1_n (by decide), gui_s, up1_n (by decide)]; exact w3, by rw [hen, gui_s, up1_n (by decide), gui_s, up1_s], by rw [hsr, gui_s, up1_s]; rfl, fun q => by omega, fun q => by omega⟩)
            · rw [if_neg (by omega)] at hsr
              first
              | (exfalso; omega)
              | (have hc : mpE h0 (gui (gui hp 142 5 ((sv + w : Nat) : Int)) 142 6 2) := w2.tr ((mpE.put (by decide)).tr (mpE.put (by decide)))
                 exact ⟨rfl, hc, hM.to hc, hpe, by rw [hS, gui_s, up1_n (by decide), gui_s, up1_n (by decide)]; exact w3, by rw [hen, gui_s, up1_n (by decide), gui_s, up1_s], by rw [hsr, z, gui_s, up1_s]; rfl, fun _ => ⟨by rw [hlw, gui_s, up1_n (by decide), gui_s, up1_n (by decide)]; exact w4, fun i hi => by rw [hS, gui_n (by decide), gui_n (by decide)]; exact w6 i (by omega) (by omega)⟩, fun q => by omega⟩)
          · refine gj_iconst (pc' := 133) dX11_next_132 rfl ?_
            refine gj_goto (pc' := 137) dX11_next_133 (by decide) ?_
            refine gp_X11_81 (pc' := 140) dX11_next_137 rfl (by first | rfl | assumption) rfl ?_
            have hR : tR B e 1 sv = sv + w := by
              rw [w5]
              apply tR_f
              omega
            have z : tSo B e p = 1 := by rw [hso, if_pos w0]; exact w1
            rw [z, if_pos (Or.inl rfl), hR] at hen
            have hlw : tLn B e p = w := by omega
            refine gj_goto (pc' := 241) dX11_next_140 (by decide) ?_
            refine gj_vret rfl dX11_next_241 ?_
            by_cases q8 : 8 < w
            · rw [if_pos (by omega)] at hsr
              first
              | (exfalso; omega)
              | (have hc : mpE h0 (gui (gui hp 142 5 ((sv + w : Nat) : Int)) 142 6 1) := w2.tr ((mpE.put (by decide)).tr (mpE.put (by decide)))
                 exact ⟨rfl, hc, hM.to hc, hpe, by rw [hS, gui_s, up1_n (by decide), gui_s, up1_n (by decide)]; exact w3, by rw [hen, gui_s, up1_n (by decide), gui_s, up1_s], by rw [hsr, gui_s, up1_s]; rfl, fun q => by omega, fun q => by omega⟩)
            · rw [if_neg (by omega)] at hsr
              first
              | (exfalso; omega)
              | (have hc : mpE h0 (gui (gui hp 142 5 ((sv + w : Nat) : Int)) 142 6 2) := w2.tr ((mpE.put (by decide)).tr (mpE.put (by decide)))
                 exact ⟨rfl, hc, hM.to hc, hpe, by rw [hS, gui_s, up1_n (by decide), gui_s, up1_n (by decide)]; exact w3, by rw [hen, gui_s, up1_n (by decide), gui_s, up1_s], by rw [hsr, z, gui_s, up1_s]; rfl, fun _ => ⟨by rw [hlw, gui_s, up1_n (by decide), gui_s, up1_n (by decide)]; exact w4, fun i hi => by rw [hS, gui_n (by decide), gui_n (by decide)]; exact w6 i (by omega) (by omega)⟩, fun q => by omega⟩)
        · first | have g75 := of_decide_eq_true c75 | have g75 := of_decide_eq_false c75 | skip
          refine gj_aload_n (pc' := 79) dX11_next_78 rfl rfl ?_
          refine gf_X11_75 (pc' := 82) dX11_next_79 rfl (by first | rfl | assumption) rfl ?_
          rw [w4]
          refine gj_bipush (pc' := 84) dX11_next_82 rfl (by decide) ?_
          refine gj_icmp_ge (pc' := 87) (tgt := 101) dX11_next_84 (by decide) rfl (by omega) (fun c84 => ?_) (fun c84 => ?_)
          · refine gj_aload_n (pc' := 102) dX11_next_101 rfl rfl ?_
            refine gj_dup (pc' := 103) dX11_next_102 rfl rfl ?_
            refine gf_X11_75 (pc' := 106) dX11_next_103 rfl (by first | rfl | assumption) rfl ?_
            first | rw [w4] | rw [gui_n (by decide), w4]
            refine gj_iconst (pc' := 107) dX11_next_106 rfl ?_
            refine gj_iadd (pc' := 108) dX11_next_107 rfl ?_
            refine gp_X11_75 (pc' := 111) dX11_next_108 rfl (by first | rfl | assumption) rfl ?_
            refine gj_iinc (pc' := 114) dX11_next_111 rfl rfl (by decide) ?_
            refine gj_goto (pc' := 67) dX11_next_114 (by decide) ?_
            refine gJ_wk (ih_w  _ (by omega) ?iv_6) ?ll_6
            case ll_6 =>
              repeat' (first | exact True.intro | with_reducible exact rfl | refine And.intro ?_ ?_ | refine vI ?_ | refine vL ?_)
              all_goals omega
            first
            | (refine ⟨w0, w1, w2.tr (mpE.let.tr (mpE.put (by decide))), ?_, ?_, w5.trans (tR_t (by omega) (by omega)), fun i hi hi8 => ?_⟩
               · rw [gui_s, up1_n (by decide), gui_n (by decide)]; exact w3
               · rw [gui_s, up1_s]; omega
               · rw [gui_n (by decide), gui_s]
                 by_cases z : i = w
                 · rw [z, up1_s]; omega
                 · rw [up1_n z]; exact w6 i (by omega) hi8)
            | (refine ⟨w0, w1, w2.tr (mpE.put (by decide)), ?_, ?_, w5.trans (tR_t (by omega) (by omega)), fun i hi hi8 => ?_⟩
               · rw [gui_s, up1_n (by decide)]; exact w3
               · rw [gui_s, up1_s]; omega
               · rw [gui_n (by decide)]
                 exact w6 i (by omega) hi8)
          · refine gj_aload_n (pc' := 88) dX11_next_87 rfl rfl ?_
            refine gf_X11_17 (pc' := 91) dX11_next_88 rfl (by first | rfl | assumption) rfl ?_
            refine gj_aload_n (pc' := 92) dX11_next_91 rfl rfl ?_
            refine gf_X11_75 (pc' := 95) dX11_next_92 rfl (by first | rfl | assumption) rfl ?_
            rw [w4]
            refine gj_aload_n (pc' := 96) dX11_next_95 rfl rfl ?_
            refine gj_iload_n (pc' := 97) dX11_next_96 rfl rfl ?_
            refine gr_X11_68 (pc' := 100) dX11_next_97 rfl (m_see hMw (by omega)) rfl (by first | rfl | assumption) (by decide) rfl (Nat.le_of_ble_eq_true rfl) ?_
            refine gj_iast (pc' := 101) (j := w) (by first | rfl | assumption) (by omega) (by omega) (by decide) dX11_next_100 rfl ?_
            refine gj_aload_n (pc' := 102) dX11_next_101 rfl rfl ?_
            refine gj_dup (pc' := 103) dX11_next_102 rfl rfl ?_
            refine gf_X11_75 (pc' := 106) dX11_next_103 rfl (by first | rfl | assumption) rfl ?_
            first | rw [w4] | rw [gui_n (by decide), w4]
            refine gj_iconst (pc' := 107) dX11_next_106 rfl ?_
            refine gj_iadd (pc' := 108) dX11_next_107 rfl ?_
            refine gp_X11_75 (pc' := 111) dX11_next_108 rfl (by first | rfl | assumption) rfl ?_
            refine gj_iinc (pc' := 114) dX11_next_111 rfl rfl (by decide) ?_
            refine gj_goto (pc' := 67) dX11_next_114 (by decide) ?_
            refine gJ_wk (ih_w  _ (by omega) ?iv_7) ?ll_7
            case ll_7 =>
              repeat' (first | exact True.intro | with_reducible exact rfl | refine And.intro ?_ ?_ | refine vI ?_ | refine vL ?_)
              all_goals omega
            first
            | (refine ⟨w0, w1, w2.tr (mpE.let.tr (mpE.put (by decide))), ?_, ?_, w5.trans (tR_t (by omega) (by omega)), fun i hi hi8 => ?_⟩
               · rw [gui_s, up1_n (by decide), gui_n (by decide)]; exact w3
               · rw [gui_s, up1_s]; omega
               · rw [gui_n (by decide), gui_s]
                 by_cases z : i = w
                 · rw [z, up1_s]; omega
                 · rw [up1_n z]; exact w6 i (by omega) hi8)
            | (refine ⟨w0, w1, w2.tr (mpE.put (by decide)), ?_, ?_, w5.trans (tR_t (by omega) (by omega)), fun i hi hi8 => ?_⟩
               · rw [gui_s, up1_n (by decide)]; exact w3
               · rw [gui_s, up1_s]; omega
               · rw [gui_n (by decide)]
                 exact w6 i (by omega) hi8)
    · refine gj_aload_n (pc' := 48) dX11_next_47 rfl rfl ?_
      refine gj_iconst (pc' := 49) dX11_next_48 rfl ?_
      refine gp_X11_81 (pc' := 52) dX11_next_49 rfl (by first | rfl | assumption) rfl ?_
      refine gj_aload_n (pc' := 53) dX11_next_52 rfl rfl ?_
      refine gj_iload_n (pc' := 54) dX11_next_53 rfl rfl ?_
      refine gp_X11_65 (pc' := 57) dX11_next_54 rfl (by first | rfl | assumption) rfl ?_
      have z : tSo B e p = 0 := by rw [hso, if_neg (by omega)]
      rw [z, if_neg (by omega)] at hen
      rw [z, if_neg (by omega)] at hsr
      refine gj_goto (pc' := 241) dX11_next_57 (by decide) ?_
      refine gj_vret rfl dX11_next_241 ?_
      have hc : mpE h0 (gui (gui hg 142 6 0) 142 5 (sv : Int)) := hcg.tr ((mpE.put (by decide)).tr (mpE.put (by decide)))
      exact ⟨rfl, hc, hM.to hc, hpe, by rw [hS, gui_s, up1_n (by decide), gui_s, up1_n (by decide)]; exact g4, by rw [hen, gui_s, up1_s]; omega, by rw [hsr, gui_s, up1_n (by decide), gui_s, up1_s]; rfl, fun q => by omega, fun q => by omega⟩
  · refine gj_iinc (pc' := 18) dX11_next_15 rfl rfl (by decide) ?_
    refine gj_goto (pc' := 5) dX11_next_18 (by decide) ?_
    refine gJ_wk (ih_j  _ (by omega) ?iv_8) ?ll_8
    case ll_8 =>
      repeat' (first | exact True.intro | with_reducible exact rfl | refine And.intro ?_ ?_ | refine vI ?_ | refine vL ?_)
      all_goals first | omega | (congr 1; omega)
    exact ⟨rfl, i6.trans (tS_t (by omega) (by omega))⟩
