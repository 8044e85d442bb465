/-! the face: what a question leaves as it was; answers -/
def XS (h h' : gH) : Prop := h'.2 = h.2 ∧ (∀ o, o ≠ 0 → o ≠ 136 → o ≠ 137 → o ≠ 139 → o ≠ 140 → o ≠ 141 → o ≠ 28 → o ≠ 51 → h'.1 o = h.1 o) ∧ (∀ k, k ≠ 9 → h'.1 0 k = h.1 0 k)
def MS (h h' : gH) : Prop := h'.2 = h.2 ∧ (∀ o, o ≠ 142 → o ≠ 150 → o ≠ 151 → o ≠ 152 → o ≠ 153 → o ≠ 154 → o ≠ 155 → h'.1 o = h.1 o) ∧ (∀ k, k ≠ 0 → k ≠ 11 → (k < 24 → h'.1 142 k = h.1 142 k)) ∧ h'.1 142 0 = 0
def qX (a tr : Int) (h : gH) : Option Value → gH → Prop := fun v h' => v = some (.int (zI a)) ∧ XS h h' ∧ h'.1 0 9 = tr
def qM (a tr : Int) (h : gH) : Option Value → gH → Prop := fun v h' => v = some (.int (zI a)) ∧ MS h h' ∧ h'.1 142 11 = tr
def qXL (a tr : Int) (h : gH) : Option Value → gH → Prop := fun v h' => v = some (.long (zL a)) ∧ XS h h' ∧ h'.1 0 9 = tr
def qML (a tr : Int) (h : gH) : Option Value → gH → Prop := fun v h' => v = some (.long (zL a)) ∧ MS h h' ∧ h'.1 142 11 = tr
theorem XS.rf (h : gH) : XS h h := ⟨rfl, fun _ _ _ _ _ _ _ _ _ => rfl, fun _ _ => rfl⟩
theorem XS.tr {h h1 h2 : gH} (a : XS h h1) (b : XS h1 h2) : XS h h2 :=
  ⟨b.1.trans a.1, fun o a0 a1 a2 a3 a4 a5 a6 a7 => (b.2.1 o a0 a1 a2 a3 a4 a5 a6 a7).trans (a.2.1 o a0 a1 a2 a3 a4 a5 a6 a7), fun k hk => (b.2.2 k hk).trans (a.2.2 k hk)⟩
theorem XS.put (h : gH) (x : Int) : XS h (gui h 0 9 x) := ⟨rfl, fun o ho _ _ _ _ _ _ _ => u2_n ho, fun k hk => by
  show u2 h.1 0 9 x 0 k = h.1 0 k
  rw [u2_s, up1_n hk]⟩
theorem qX_i {a tr : Int} {p : Int × Int} {h h' : gH} (e : p = (a, tr)) (hs : XS h h') (hb : h'.1 0 9 = tr) : qX p.1 p.2 h (some (.int (zI a))) h' := by
  subst e; exact ⟨rfl, hs, hb⟩
theorem qXL_i {a tr : Int} {p : Int × Int} {h h' : gH} (e : p = (a, tr)) (hs : XS h h') (hb : h'.1 0 9 = tr) : qXL p.1 p.2 h (some (.long (zL a))) h' := by
  subst e; exact ⟨rfl, hs, hb⟩
theorem qM_i {a tr : Int} {p : Int × Int} {h h' : gH} (e : p = (a, tr)) (hs : MS h h') (hb : h'.1 142 11 = tr) : qM p.1 p.2 h (some (.int (zI a))) h' := by
  subst e; exact ⟨rfl, hs, hb⟩
theorem qML_i {a tr : Int} {p : Int × Int} {h h' : gH} (e : p = (a, tr)) (hs : MS h h') (hb : h'.1 142 11 = tr) : qML p.1 p.2 h (some (.long (zL a))) h' := by
  subst e; exact ⟨rfl, hs, hb⟩
def inB (a : Int) : Prop := -2147483648 ≤ a ∧ a ≤ 2147483647
def XQ (h : gH) (t : Nat) (T S : Nat → Nat) : Prop := isT t ∧ h.2.2 0 = t ∧ (h.1 t 3 = (T 3 : Int) ∧ h.1 t 4 = (T 4 : Int) ∧ h.1 (t + 10) 0 = (T 5 : Int)) ∧ (T 3 ≤ 6 ∧ T 4 ≤ 7 ∧ T 5 ≤ 3) ∧ ((T 3 = 0 ∧ T 4 = 0 ∧ T 5 = 0) ∨ CI h t T S)
theorem XQ.ci {h : gH} {t : Nat} {T S : Nat → Nat} (hQ : XQ h t T S) (hn : T 3 ≠ 0 ∨ T 4 ≠ 0 ∨ T 5 ≠ 0) : CI h t T S := by
  obtain ⟨_, _, _, _, q | q⟩ := hQ
  · omega
  · exact q
def mG (h : gH) : gH := gui (gui h 142 0 0) 142 11 0
def mQ (h : gH) (T S : Nat → Nat) : Prop := MA h T S ∧ h.1 142 14 = bI (decide (T 3 ≠ 0)) ∧ (T 3 ≤ 6 ∧ T 4 ≤ 7 ∧ T 5 ≤ 3) ∧ ((T 3 = 0 ∧ T 4 = 0 ∧ T 5 = 0) ∨ (TV T ∧ SV T S))
theorem mQ.mi {h : gH} {T S : Nat → Nat} (hQ : mQ h T S) (hn : T 3 ≠ 0 ∨ T 4 ≠ 0 ∨ T 5 ≠ 0) : MI h T S := by
  obtain ⟨a, _, _, q | q⟩ := hQ
  · omega
  · exact ⟨a, q.1, q.2⟩
theorem MS.good (h : gH) : MS h (mG h) := ⟨rfl, fun o ho _ _ _ _ _ _ => by
  show u2 (u2 h.1 142 0 0) 142 11 0 o = h.1 o
  rw [u2_n ho, u2_n ho], fun k h0 h11 _ => by
  show u2 (u2 h.1 142 0 0) 142 11 0 142 k = h.1 142 k
  rw [u2_s, up1_n h11, u2_s, up1_n h0], rfl⟩
theorem MS.no (h : gH) (w : Int) : MS h (gui (mG h) 142 11 w) := ⟨rfl, fun o ho _ _ _ _ _ _ => by
  show u2 (mG h).1 142 11 w o = h.1 o
  rw [u2_n ho]
  exact (MS.good h).2.1 o ho (by assumption) (by assumption) (by assumption) (by assumption) (by assumption) (by assumption), fun k h0 h11 h24 => by
  show u2 (mG h).1 142 11 w 142 k = h.1 142 k
  rw [u2_s, up1_n h11]
  exact (MS.good h).2.2.1 k h0 h11 h24, rfl⟩
theorem x_refuse {h : gH} {w : Int} : gSp 1 yX10_refuse cX10_refuse 2 (some .int) [.ref 0, .int (zI w)] h (qX (-1) w h) := by
  refine gSp_of (by decide +kernel) (Nat.le_of_ble_eq_true rfl) ?_
  show gJ RX10 cX10_refuse 2 (some .int) _ 0 [some (.ref 0), some (.int (zI w))] [] _ _
  refine gj_aload_n (pc' := 1) dX10_refuse_0 rfl rfl ?_
  refine gj_iload_n (pc' := 2) dX10_refuse_1 rfl rfl ?_
  refine gp_X10_108 (pc' := 5) dX10_refuse_2 rfl (by first | rfl | assumption) rfl ?_
  refine gj_iconst (pc' := 6) dX10_refuse_5 rfl ?_
  refine gj_iret rfl dX10_refuse_6 ?_
  exact ⟨rfl, XS.put h w, rfl⟩
theorem x_grant {h : gH} {a : Int} : gSp 1 yX10_grant cX10_grant 2 (some .int) [.ref 0, .int (zI a)] h (qX a 0 h) := by
  refine gSp_of (by decide +kernel) (Nat.le_of_ble_eq_true rfl) ?_
  show gJ RX10 cX10_grant 2 (some .int) _ 0 [some (.ref 0), some (.int (zI a))] [] _ _
  refine gj_aload_n (pc' := 1) dX10_grant_0 rfl rfl ?_
  refine gj_iconst (pc' := 2) dX10_grant_1 rfl ?_
  refine gp_X10_108 (pc' := 5) dX10_grant_2 rfl (by first | rfl | assumption) rfl ?_
  refine gj_iload_n (pc' := 6) dX10_grant_5 rfl rfl ?_
  refine gj_iret rfl dX10_grant_6 ?_
  exact ⟨rfl, XS.put h 0, rfl⟩
theorem x_grantLong {h : gH} {a : Int} : gSp 1 yX10_grantLong cX10_grantLong 3 (some .long) [.ref 0, .long (zL a)] h (qXL a 0 h) := by
  refine gSp_of (by decide +kernel) (Nat.le_of_ble_eq_true rfl) ?_
  show gJ RX10 cX10_grantLong 3 (some .long) _ 0 [some (.ref 0), some (.long (zL a)), none] [] _ _
  refine gj_aload_n (pc' := 1) dX10_grantLong_0 rfl rfl ?_
  refine gj_iconst (pc' := 2) dX10_grantLong_1 rfl ?_
  refine gp_X10_108 (pc' := 5) dX10_grantLong_2 rfl (by first | rfl | assumption) rfl ?_
  refine gj_lload_n (pc' := 6) dX10_grantLong_5 rfl rfl ?_
  refine gj_lret rfl dX10_grantLong_6 ?_
  exact ⟨rfl, XS.put h 0, rfl⟩
theorem x_hasTown {h : gH} {t : Nat} {T S : Nat → Nat} (hQ : XQ h t T S) : gSp 1 yX10_hasTown cX10_hasTown 1 (some .boolean) [.ref 0] h (gR (.int (zI (bI (decide (T 3 ≠ 0))))) h) := by
  obtain ⟨ht, hP, hF, hB, -⟩ := hQ
  obtain ⟨s0, -⟩ := shT ht
  refine gSp_of (by decide +kernel) (Nat.le_of_ble_eq_true rfl) ?_
  show gJ RX10 cX10_hasTown 1 (some .boolean) _ 0 [some (.ref 0)] [] _ _
  refine gj_aload_n (pc' := 1) dX10_hasTown_0 rfl rfl ?_
  refine gf_X10_54 (pc' := 4) dX10_hasTown_1 rfl (by first | rfl | assumption) rfl ?_
  rw [hP]
  refine gf_X10_102 (pc' := 7) dX10_hasTown_4 rfl (by first | rfl | assumption) rfl ?_
  rw [hF.1]
  refine gj_if_le (pc' := 10) (tgt := 14) dX10_hasTown_7 (by decide) rfl (by omega) (fun c7 => ?_) (fun c7 => ?_)
  · refine gj_iconst (pc' := 15) dX10_hasTown_14 rfl ?_
    refine gj_zret rfl (by first | rfl | exact gnZ _ | assumption) dX10_hasTown_15 ?_
    first | exact gR_t (by simp; omega) | exact gR_f (by simp; omega)
  · refine gj_iconst (pc' := 11) dX10_hasTown_10 rfl ?_
    refine gj_goto (pc' := 15) dX10_hasTown_11 (by decide) ?_
    refine gj_zret rfl (by first | rfl | exact gnZ _ | assumption) dX10_hasTown_15 ?_
    first | exact gR_t (by simp; omega) | exact gR_f (by simp; omega)
theorem x_isHouse {h : gH} {t : Nat} {T S : Nat → Nat} {a : Int} (hQ : XQ h t T S) (ha : inB a) : gSp 1 yX10_isHouse cX10_isHouse 2 (some .boolean) [.ref 0, .int (zI a)] h (gR (.int (zI (bI (decide (0 ≤ a ∧ a < (T 3 : Int)))))) h) := by
  obtain ⟨ht, hP, hF, hB, -⟩ := hQ
  obtain ⟨s0, -⟩ := shT ht
  unfold inB at ha
  refine gSp_of (by decide +kernel) (Nat.le_of_ble_eq_true rfl) ?_
  show gJ RX10 cX10_isHouse 2 (some .boolean) _ 0 [some (.ref 0), some (.int (zI a))] [] _ _
  refine gj_iload_n (pc' := 1) dX10_isHouse_0 rfl rfl ?_
  refine gj_if_lt (pc' := 4) (tgt := 19) dX10_isHouse_1 (by decide) rfl (by omega) (fun c1 => ?_) (fun c1 => ?_)
  · refine gj_iconst (pc' := 20) dX10_isHouse_19 rfl ?_
    refine gj_zret rfl (by first | rfl | exact gnZ _ | assumption) dX10_isHouse_20 ?_
    first | exact gR_t (by simp; omega) | exact gR_f (by simp; omega)
  · refine gj_iload_n (pc' := 5) dX10_isHouse_4 rfl rfl ?_
    refine gj_aload_n (pc' := 6) dX10_isHouse_5 rfl rfl ?_
    refine gf_X10_54 (pc' := 9) dX10_isHouse_6 rfl (by first | rfl | assumption) rfl ?_
    rw [hP]
    refine gf_X10_102 (pc' := 12) dX10_isHouse_9 rfl (by first | rfl | assumption) rfl ?_
    rw [hF.1]
    refine gj_icmp_ge (pc' := 15) (tgt := 19) dX10_isHouse_12 (by decide) rfl (by omega) (fun c12 => ?_) (fun c12 => ?_)
    · refine gj_iconst (pc' := 20) dX10_isHouse_19 rfl ?_
      refine gj_zret rfl (by first | rfl | exact gnZ _ | assumption) dX10_isHouse_20 ?_
      first | exact gR_t (by simp; omega) | exact gR_f (by simp; omega)
    · refine gj_iconst (pc' := 16) dX10_isHouse_15 rfl ?_
      refine gj_goto (pc' := 20) dX10_isHouse_16 (by decide) ?_
      refine gj_zret rfl (by first | rfl | exact gnZ _ | assumption) dX10_isHouse_20 ?_
      first | exact gR_t (by simp; omega) | exact gR_f (by simp; omega)
theorem x_isBird {h : gH} {t : Nat} {T S : Nat → Nat} {a : Int} (hQ : XQ h t T S) (ha : inB a) : gSp 1 yX10_isBird cX10_isBird 2 (some .boolean) [.ref 0, .int (zI a)] h (gR (.int (zI (bI (decide (0 ≤ a ∧ a < (T 4 : Int)))))) h) := by
  obtain ⟨ht, hP, hF, hB, -⟩ := hQ
  obtain ⟨s0, -⟩ := shT ht
  unfold inB at ha
  refine gSp_of (by decide +kernel) (Nat.le_of_ble_eq_true rfl) ?_
  show gJ RX10 cX10_isBird 2 (some .boolean) _ 0 [some (.ref 0), some (.int (zI a))] [] _ _
  refine gj_iload_n (pc' := 1) dX10_isBird_0 rfl rfl ?_
  refine gj_if_lt (pc' := 4) (tgt := 19) dX10_isBird_1 (by decide) rfl (by omega) (fun c1 => ?_) (fun c1 => ?_)
  · refine gj_iconst (pc' := 20) dX10_isBird_19 rfl ?_
    refine gj_zret rfl (by first | rfl | exact gnZ _ | assumption) dX10_isBird_20 ?_
    first | exact gR_t (by simp; omega) | exact gR_f (by simp; omega)
  · refine gj_iload_n (pc' := 5) dX10_isBird_4 rfl rfl ?_
    refine gj_aload_n (pc' := 6) dX10_isBird_5 rfl rfl ?_
    refine gf_X10_54 (pc' := 9) dX10_isBird_6 rfl (by first | rfl | assumption) rfl ?_
    rw [hP]
    refine gf_X10_371 (pc' := 12) dX10_isBird_9 rfl (by first | rfl | assumption) rfl ?_
    rw [hF.2.1]
    refine gj_icmp_ge (pc' := 15) (tgt := 19) dX10_isBird_12 (by decide) rfl (by omega) (fun c12 => ?_) (fun c12 => ?_)
    · refine gj_iconst (pc' := 20) dX10_isBird_19 rfl ?_
      refine gj_zret rfl (by first | rfl | exact gnZ _ | assumption) dX10_isBird_20 ?_
      first | exact gR_t (by simp; omega) | exact gR_f (by simp; omega)
    · refine gj_iconst (pc' := 16) dX10_isBird_15 rfl ?_
      refine gj_goto (pc' := 20) dX10_isBird_16 (by decide) ?_
      refine gj_zret rfl (by first | rfl | exact gnZ _ | assumption) dX10_isBird_20 ?_
      first | exact gR_t (by simp; omega) | exact gR_f (by simp; omega)
theorem x_isWithin {h : gH} {a b c : Int} (ha : inB a) (hb : inB b) (hc : inB c) : gSp 1 yX10_isWithin cX10_isWithin 3 (some .boolean) [.int (zI a), .int (zI b), .int (zI c)] h (gR (.int (zI (bI (decide (b ≤ a ∧ a ≤ c))))) h) := by
  unfold inB at ha hb hc
  refine gSp_of (by decide +kernel) (Nat.le_of_ble_eq_true rfl) ?_
  show gJ RX10 cX10_isWithin 3 (some .boolean) _ 0 [some (.int (zI a)), some (.int (zI b)), some (.int (zI c))] [] _ _
  refine gj_iload_n (pc' := 1) dX10_isWithin_0 rfl rfl ?_
  refine gj_iload_n (pc' := 2) dX10_isWithin_1 rfl rfl ?_
  refine gj_icmp_lt (pc' := 5) (tgt := 14) dX10_isWithin_2 (by decide) rfl (by omega) (fun c2 => ?_) (fun c2 => ?_)
  · refine gj_iconst (pc' := 15) dX10_isWithin_14 rfl ?_
    refine gj_zret rfl (by first | rfl | exact gnZ _ | assumption) dX10_isWithin_15 ?_
    first | exact gR_t (by simp; omega) | exact gR_f (by simp; omega)
  · refine gj_iload_n (pc' := 6) dX10_isWithin_5 rfl rfl ?_
    refine gj_iload_n (pc' := 7) dX10_isWithin_6 rfl rfl ?_
    refine gj_icmp_gt (pc' := 10) (tgt := 14) dX10_isWithin_7 (by decide) rfl (by omega) (fun c7 => ?_) (fun c7 => ?_)
    · refine gj_iconst (pc' := 15) dX10_isWithin_14 rfl ?_
      refine gj_zret rfl (by first | rfl | exact gnZ _ | assumption) dX10_isWithin_15 ?_
      first | exact gR_t (by simp; omega) | exact gR_f (by simp; omega)
    · refine gj_iconst (pc' := 11) dX10_isWithin_10 rfl ?_
      refine gj_goto (pc' := 15) dX10_isWithin_11 (by decide) ?_
      refine gj_zret rfl (by first | rfl | exact gnZ _ | assumption) dX10_isWithin_15 ?_
      first | exact gR_t (by simp; omega) | exact gR_f (by simp; omega)
theorem x_areTwoHouses {h : gH} {t : Nat} {T S : Nat → Nat} {a b : Int} (hQ : XQ h t T S) (ha : inB a) (hb : inB b) : gSp 2 yX10_areTwoHouses cX10_areTwoHouses 3 (some .boolean) [.ref 0, .int (zI a), .int (zI b)] h (gR (.int (zI (bI (decide ((0 ≤ a ∧ a < (T 3 : Int)) ∧ (0 ≤ b ∧ b < (T 3 : Int)) ∧ a ≠ b))))) h) := by
  unfold inB at *
  refine gSp_of (by decide +kernel) (Nat.le_of_ble_eq_true rfl) ?_
  show gJ RX10 cX10_areTwoHouses 3 (some .boolean) _ 0 [some (.ref 0), some (.int (zI a)), some (.int (zI b))] [] _ _
  refine gj_aload_n (pc' := 1) dX10_areTwoHouses_0 rfl rfl ?_
  refine gj_iload_n (pc' := 2) dX10_areTwoHouses_1 rfl rfl ?_
  refine gr_X10_111 (pc' := 5) dX10_areTwoHouses_2 rfl (x_isHouse hQ ha) rfl (by first | rfl | assumption) (by decide) rfl (Nat.le_of_ble_eq_true rfl) ?_
  first | refine gj_ifB_eq (pc' := 8) (tgt := 25) dX10_areTwoHouses_5 (by decide) rfl (fun c5 => ?_) (fun c5 => ?_) | refine gj_if_eq (pc' := 8) (tgt := 25) dX10_areTwoHouses_5 (by decide) rfl (by omega) (fun c5 => ?_) (fun c5 => ?_)
  · first | have g5 := of_decide_eq_true c5 | have g5 := of_decide_eq_false c5 | skip
    refine gj_iconst (pc' := 26) dX10_areTwoHouses_25 rfl ?_
    refine gj_zret rfl (by first | rfl | exact gnZ _ | assumption) dX10_areTwoHouses_26 ?_
    first | exact gR_t (by rw [decide_eq_true]; omega) | exact gR_f (by rw [decide_eq_false]; omega)
  · first | have g5 := of_decide_eq_true c5 | have g5 := of_decide_eq_false c5 | skip
    refine gj_aload_n (pc' := 9) dX10_areTwoHouses_8 rfl rfl ?_
    refine gj_iload_n (pc' := 10) dX10_areTwoHouses_9 rfl rfl ?_
    refine gr_X10_111 (pc' := 13) dX10_areTwoHouses_10 rfl (x_isHouse hQ hb) rfl (by first | rfl | assumption) (by decide) rfl (Nat.le_of_ble_eq_true rfl) ?_
    first | refine gj_ifB_eq (pc' := 16) (tgt := 25) dX10_areTwoHouses_13 (by decide) rfl (fun c13 => ?_) (fun c13 => ?_) | refine gj_if_eq (pc' := 16) (tgt := 25) dX10_areTwoHouses_13 (by decide) rfl (by omega) (fun c13 => ?_) (fun c13 => ?_)
    · first | have g13 := of_decide_eq_true c13 | have g13 := of_decide_eq_false c13 | skip
      refine gj_iconst (pc' := 26) dX10_areTwoHouses_25 rfl ?_
      refine gj_zret rfl (by first | rfl | exact gnZ _ | assumption) dX10_areTwoHouses_26 ?_
      first | exact gR_t (by rw [decide_eq_true]; omega) | exact gR_f (by rw [decide_eq_false]; omega)
    · first | have g13 := of_decide_eq_true c13 | have g13 := of_decide_eq_false c13 | skip
      refine gj_iload_n (pc' := 17) dX10_areTwoHouses_16 rfl rfl ?_
      refine gj_iload_n (pc' := 18) dX10_areTwoHouses_17 rfl rfl ?_
      refine gj_icmp_eq (pc' := 21) (tgt := 25) dX10_areTwoHouses_18 (by decide) rfl (by omega) (fun c18 => ?_) (fun c18 => ?_)
      · refine gj_iconst (pc' := 26) dX10_areTwoHouses_25 rfl ?_
        refine gj_zret rfl (by first | rfl | exact gnZ _ | assumption) dX10_areTwoHouses_26 ?_
        first | exact gR_t (by rw [decide_eq_true]; omega) | exact gR_f (by rw [decide_eq_false]; omega)
      · refine gj_iconst (pc' := 22) dX10_areTwoHouses_21 rfl ?_
        refine gj_goto (pc' := 26) dX10_areTwoHouses_22 (by decide) ?_
        refine gj_zret rfl (by first | rfl | exact gnZ _ | assumption) dX10_areTwoHouses_26 ?_
        first | exact gR_t (by rw [decide_eq_true]; omega) | exact gR_f (by rw [decide_eq_false]; omega)
theorem x_areTwoBirds {h : gH} {t : Nat} {T S : Nat → Nat} {a b : Int} (hQ : XQ h t T S) (ha : inB a) (hb : inB b) : gSp 2 yX10_areTwoBirds cX10_areTwoBirds 3 (some .boolean) [.ref 0, .int (zI a), .int (zI b)] h (gR (.int (zI (bI (decide ((0 ≤ a ∧ a < (T 4 : Int)) ∧ (0 ≤ b ∧ b < (T 4 : Int)) ∧ a ≠ b))))) h) := by
  unfold inB at *
  refine gSp_of (by decide +kernel) (Nat.le_of_ble_eq_true rfl) ?_
  show gJ RX10 cX10_areTwoBirds 3 (some .boolean) _ 0 [some (.ref 0), some (.int (zI a)), some (.int (zI b))] [] _ _
  refine gj_aload_n (pc' := 1) dX10_areTwoBirds_0 rfl rfl ?_
  refine gj_iload_n (pc' := 2) dX10_areTwoBirds_1 rfl rfl ?_
  refine gr_X10_134 (pc' := 5) dX10_areTwoBirds_2 rfl (x_isBird hQ ha) rfl (by first | rfl | assumption) (by decide) rfl (Nat.le_of_ble_eq_true rfl) ?_
  first | refine gj_ifB_eq (pc' := 8) (tgt := 25) dX10_areTwoBirds_5 (by decide) rfl (fun c5 => ?_) (fun c5 => ?_) | refine gj_if_eq (pc' := 8) (tgt := 25) dX10_areTwoBirds_5 (by decide) rfl (by omega) (fun c5 => ?_) (fun c5 => ?_)
  · first | have g5 := of_decide_eq_true c5 | have g5 := of_decide_eq_false c5 | skip
    refine gj_iconst (pc' := 26) dX10_areTwoBirds_25 rfl ?_
    refine gj_zret rfl (by first | rfl | exact gnZ _ | assumption) dX10_areTwoBirds_26 ?_
    first | exact gR_t (by rw [decide_eq_true]; omega) | exact gR_f (by rw [decide_eq_false]; omega)
  · first | have g5 := of_decide_eq_true c5 | have g5 := of_decide_eq_false c5 | skip
    refine gj_aload_n (pc' := 9) dX10_areTwoBirds_8 rfl rfl ?_
    refine gj_iload_n (pc' := 10) dX10_areTwoBirds_9 rfl rfl ?_
    refine gr_X10_134 (pc' := 13) dX10_areTwoBirds_10 rfl (x_isBird hQ hb) rfl (by first | rfl | assumption) (by decide) rfl (Nat.le_of_ble_eq_true rfl) ?_
    first | refine gj_ifB_eq (pc' := 16) (tgt := 25) dX10_areTwoBirds_13 (by decide) rfl (fun c13 => ?_) (fun c13 => ?_) | refine gj_if_eq (pc' := 16) (tgt := 25) dX10_areTwoBirds_13 (by decide) rfl (by omega) (fun c13 => ?_) (fun c13 => ?_)
    · first | have g13 := of_decide_eq_true c13 | have g13 := of_decide_eq_false c13 | skip
      refine gj_iconst (pc' := 26) dX10_areTwoBirds_25 rfl ?_
      refine gj_zret rfl (by first | rfl | exact gnZ _ | assumption) dX10_areTwoBirds_26 ?_
      first | exact gR_t (by rw [decide_eq_true]; omega) | exact gR_f (by rw [decide_eq_false]; omega)
    · first | have g13 := of_decide_eq_true c13 | have g13 := of_decide_eq_false c13 | skip
      refine gj_iload_n (pc' := 17) dX10_areTwoBirds_16 rfl rfl ?_
      refine gj_iload_n (pc' := 18) dX10_areTwoBirds_17 rfl rfl ?_
      refine gj_icmp_eq (pc' := 21) (tgt := 25) dX10_areTwoBirds_18 (by decide) rfl (by omega) (fun c18 => ?_) (fun c18 => ?_)
      · refine gj_iconst (pc' := 26) dX10_areTwoBirds_25 rfl ?_
        refine gj_zret rfl (by first | rfl | exact gnZ _ | assumption) dX10_areTwoBirds_26 ?_
        first | exact gR_t (by rw [decide_eq_true]; omega) | exact gR_f (by rw [decide_eq_false]; omega)
      · refine gj_iconst (pc' := 22) dX10_areTwoBirds_21 rfl ?_
        refine gj_goto (pc' := 26) dX10_areTwoBirds_22 (by decide) ?_
        refine gj_zret rfl (by first | rfl | exact gnZ _ | assumption) dX10_areTwoBirds_26 ?_
        first | exact gR_t (by rw [decide_eq_true]; omega) | exact gR_f (by rw [decide_eq_false]; omega)
theorem m_good {h : gH} : gSp 1 yX11_good cX11_good 1 none [.ref 142] h (fun v h' => v = none ∧ h' = mG h) := by
  refine gSp_of (by decide +kernel) (Nat.le_of_ble_eq_true rfl) ?_
  show gJ RX11 cX11_good 1 none _ 0 [some (.ref 142)] [] _ _
  refine gj_aload_n (pc' := 1) dX11_good_0 rfl rfl ?_
  refine gj_iconst (pc' := 2) dX11_good_1 rfl ?_
  refine gp_X11_53 (pc' := 5) dX11_good_2 rfl (by first | rfl | assumption) rfl ?_
  refine gj_aload_n (pc' := 6) dX11_good_5 rfl rfl ?_
  refine gj_iconst (pc' := 7) dX11_good_6 rfl ?_
  refine gp_X11_56 (pc' := 10) dX11_good_7 rfl (by first | rfl | assumption) rfl ?_
  refine gj_vret rfl dX11_good_10 ?_
  exact ⟨rfl, rfl⟩
theorem m_no {h : gH} {w : Int} : gSp 1 yX11_no cX11_no 2 (some .int) [.ref 142, .int (zI w)] h (fun v h' => v = some (.int (zI (-1))) ∧ h' = gui h 142 11 w) := by
  refine gSp_of (by decide +kernel) (Nat.le_of_ble_eq_true rfl) ?_
  show gJ RX11 cX11_no 2 (some .int) _ 0 [some (.ref 142), some (.int (zI w))] [] _ _
  refine gj_aload_n (pc' := 1) dX11_no_0 rfl rfl ?_
  refine gj_iload_n (pc' := 2) dX11_no_1 rfl rfl ?_
  refine gp_X11_56 (pc' := 5) dX11_no_2 rfl (by first | rfl | assumption) rfl ?_
  refine gj_iconst (pc' := 6) dX11_no_5 rfl ?_
  refine gj_iret rfl dX11_no_6 ?_
  exact ⟨rfl, rfl⟩
theorem mQ.g {h : gH} {T S : Nat → Nat} (hQ : mQ h T S) : mQ (mG h) T S := hQ
theorem qM_g {a : Int} {p : Int × Int} {h : gH} (e : p = (a, 0)) : qM p.1 p.2 h (some (.int (zI a))) (mG h) := qM_i e (MS.good h) rfl
theorem qM_n {w : Int} {p : Int × Int} {h : gH} (e : p = (-1, w)) : qM p.1 p.2 h (some (.int (zI (-1)))) (gui (mG h) 142 11 w) := qM_i e (MS.no h w) rfl
theorem qML_g {a : Int} {p : Int × Int} {h : gH} (e : p = (a, 0)) : qML p.1 p.2 h (some (.long (zL a))) (mG h) := qML_i e (MS.good h) rfl
theorem qML_n {w : Int} {p : Int × Int} {h : gH} (e : p = (-1, w)) : qML p.1 p.2 h (some (.long (zL (-1)))) (gui (mG h) 142 11 w) := qML_i e (MS.no h w) rfl
-- the answers
def nPr (T S : Nat → Nat) : Nat := nWo (2 ^ T 4 - 1) (S 19)
def okH (T : Nat → Nat) (a : Int) : Prop := 0 ≤ a ∧ a < (T 3 : Int)
def aHouse (T S : Nat → Nat) (a b : Int) : Int × Int := if 0 ≤ a ∧ a < (T 3 : Int) then (if b = 0 then ((tPl T a.toNat : Int), 0) else if b = 1 then ((S (13 + a.toNat) : Int), 0) else if b = 2 then ((S (7 + a.toNat) : Int), 0) else if b = 3 then ((sSet T S a.toNat (S 20) : Int), 0) else if b = 4 then ((sAg T S a.toNat : Int), 0) else (-1, 1)) else (-1, 1)
def aBird (T S : Nat → Nat) (a b : Int) : Int × Int := if 0 ≤ a ∧ a < (T 4 : Int) then (if b = 0 then ((T (19 + 5 * a.toNat) : Int), 0) else if b = 1 then ((T (20 + 5 * a.toNat) : Int), 0) else if b = 2 then ((T (21 + 5 * a.toNat) : Int), 0) else if b = 3 then ((tSill T a.toNat : Int), 0) else if b = 4 then ((tFl T a.toNat : Int), 0) else if b = 5 then ((tNe T a.toNat : Int), 0) else if b = 6 then ((tLe T S a.toNat : Int), 0) else if b = 7 then ((sWh T S a.toNat (S 20) : Int), 0) else (-1, 1)) else (-1, 1)
def aApart (T : Nat → Nat) (a b : Int) : Int × Int := if (0 ≤ a ∧ a < (T 3 : Int)) ∧ (0 ≤ b ∧ b < (T 3 : Int)) ∧ a ≠ b then ((tAp T a.toNat b.toNat : Int), 0) else (-1, 1)
def aTown (T : Nat → Nat) (x : Int) : Int × Int := if T 3 ≠ 0 then (x, 0) else (-1, 1)
def aHo (T : Nat → Nat) (a : Int) (f : Nat → Int) : Int × Int := if 0 ≤ a ∧ a < (T 3 : Int) then (f a.toNat, 0) else (-1, 1)
def aBi (T : Nat → Nat) (a : Int) (f : Nat → Int) : Int × Int := if 0 ≤ a ∧ a < (T 4 : Int) then (f a.toNat, 0) else (-1, 1)
def aHoN (T : Nat → Nat) (a n : Int) (f : Nat → Nat → Int) (m : Int) : Int × Int := if 0 ≤ a ∧ a < (T 3 : Int) then (if 0 ≤ n ∧ n ≤ m then (f a.toNat n.toNat, 0) else (-1, 2)) else (-1, 1)
def aBiN (T : Nat → Nat) (a n : Int) (f : Nat → Nat → Int) (m : Int) : Int × Int := if 0 ≤ a ∧ a < (T 4 : Int) then (if 0 ≤ n ∧ n ≤ m then (f a.toNat n.toNat, 0) else (-1, 2)) else (-1, 1)
def aToN (T : Nat → Nat) (n : Int) (f : Nat → Int) (m : Int) : Int × Int := if T 3 ≠ 0 then (if 0 ≤ n ∧ n ≤ m then (f n.toNat, 0) else (-1, 2)) else (-1, 1)
def aMeeting (T S : Nat → Nat) (a b : Int) : Int × Int := if (0 ≤ a ∧ a < (T 4 : Int)) ∧ (0 ≤ b ∧ b < (T 4 : Int)) ∧ a ≠ b then (if sPair T S a.toNat b.toNat = true then (((nD (tLe T S a.toNat) (tLe T S b.toNat) : Nat) : Int), 0) else (-2, 0)) else (-1, 1)
def aFeud (T S : Nat → Nat) (a b : Int) : Int × Int := if (0 ≤ a ∧ a < (T 3 : Int)) ∧ (0 ≤ b ∧ b < (T 3 : Int)) ∧ a ≠ b then ((sFeud T S a.toNat b.toNat : Int), 0) else (-1, 1)
def aSafe (T S : Nat → Nat) (a n : Int) (l : Bool) : Int × Int := if 0 ≤ a ∧ a < (T 4 : Int) then (if 0 ≤ n ∧ n ≤ 8 then (if sWh T S a.toNat (S 20) = 2 then ((hUn (T 1) n.toNat l : Int), 0) else (-1, 5)) else (-1, 2)) else (-1, 1)
