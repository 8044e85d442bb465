/-! the class's Reader: words and numbers -/
def reE (h h' : gH) : Prop := h'.2.2 = h.2.2 ∧ (∀ o, o ≠ 1 → o ≠ 2 → h'.1 o = h.1 o) ∧ (∀ o, o ≠ 2 → h'.2.1 o = h.2.1 o) ∧ (∀ k, (k < 5 ∨ 7 < k) → h'.1 1 k = h.1 1 k) ∧ (∀ k, k < 3 → h'.1 2 k = h.1 2 k)
theorem reE.rf (h : gH) : reE h h := ⟨rfl, fun _ _ _ => rfl, fun _ _ => rfl, fun _ _ => rfl, fun _ _ => rfl⟩
theorem reE.tr {h h1 h2 : gH} (a : reE h h1) (b : reE h1 h2) : reE h h2 := ⟨b.1.trans a.1, fun o o1 o2 => (b.2.1 o o1 o2).trans (a.2.1 o o1 o2), fun o o2 => (b.2.2.1 o o2).trans (a.2.2.1 o o2), fun k hk => (b.2.2.2.1 k hk).trans (a.2.2.2.1 k hk), fun k hk => (b.2.2.2.2 k hk).trans (a.2.2.2.2 k hk)⟩
theorem tpE.re {h h' : gH} (a : tpE h h') : reE h h' := ⟨a.1, fun o _ o2 => (a.2.1 o o2).1, fun o o2 => (a.2.1 o o2).2, fun k _ => by rw [(a.2.1 1 (by decide)).1], a.2.2⟩
theorem reE.put {h : gH} {k : Nat} {x : Int} (hk : 5 ≤ k ∧ k ≤ 7) : reE h (gui h 1 k x) := ⟨rfl, fun o o1 _ => gui_n o1, fun _ _ => rfl, fun i hi => by rw [gui_s, up1_n (by omega)], fun i _ => by rw [gui_n (by decide)]⟩
theorem CTk.to {h h' : gH} {B : Nat → Nat} {e p : Nat} (a : CTk h B e p) (e2 : h'.1 2 = h.1 2) (e3 : h'.1 3 = h.1 3) (l2 : h'.2.1 2 = h.2.1 2) (e1 : h'.1 1 6 = h.1 1 6) : CTk h' B e p := by
  obtain ⟨⟨b1, b2, b3⟩, a1, a2, a3, a4, a5, a6⟩ := a
  exact ⟨⟨⟨b1.1, e1.trans b1.2⟩, by rw [e2]; exact b2, fun j hj => by rw [e3]; exact b3 j hj⟩, a1, by rw [e2]; exact a2, by rw [e2]; exact a3, by rw [e2]; exact a4, fun q => by rw [l2]; exact a5 q, fun q => by rw [e2]; exact a6 q⟩
theorem CTk.put {h : gH} {B : Nat → Nat} {e p k : Nat} {x : Int} (a : CTk h B e p) (hk : k ≠ 6 := by decide) : CTk (gui h 1 k x) B e p := a.to (gui_n (by decide)) (gui_n (by decide)) rfl (by rw [gui_s, up1_n (fun z => hk z.symm)])
theorem s_fail {h : gH} {k s : Nat} (hs : h.1 2 3 = (s : Int)) : gSp 1 yX4_fail cX4_fail 2 (some .boolean) [.ref 1, .int (zI (k : Int))] h (fun v h' => v = some (.int (zI 0)) ∧ reE h h' ∧ h'.1 1 6 = (k : Int) ∧ h'.1 1 7 = (s : Int)) := by
  refine gSp_of (by decide +kernel) (Nat.le_of_ble_eq_true rfl) ?_
  show gJ RX4 cX4_fail 2 (some .boolean) _ 0 [some (.ref 1), some (.int (zI (k : Int)))] [] _ _
  refine gj_aload_n (pc' := 1) dX4_fail_0 rfl rfl ?_
  refine gj_iload_n (pc' := 2) dX4_fail_1 rfl rfl ?_
  refine gp_X4_35 (pc' := 5) dX4_fail_2 rfl (by first | rfl | assumption) rfl ?_
  refine gj_aload_n (pc' := 6) dX4_fail_5 rfl rfl ?_
  refine gj_aload_n (pc' := 7) dX4_fail_6 rfl rfl ?_
  refine gf_X4_16 (pc' := 10) dX4_fail_7 rfl (by first | rfl | assumption) rfl ?_
  refine gf_X4_76 (pc' := 13) dX4_fail_10 rfl (by first | rfl | assumption) rfl ?_
  rw [gui_n (by decide), hs]
  refine gp_X4_39 (pc' := 16) dX4_fail_13 rfl (by first | rfl | assumption) rfl ?_
  refine gj_iconst (pc' := 17) dX4_fail_16 rfl ?_
  refine gj_zret rfl (by first | rfl | exact gnZ _ | assumption) dX4_fail_17 ?_
  exact ⟨rfl, (reE.put (by decide)).tr (reE.put (by decide)), by rw [gui_s, up1_n (by decide), gui_s, up1_s], by rw [gui_s, up1_s]⟩
-- (fault, value or place, the next token's place)
def ptW (B : Nat → Nat) (e w p : Nat) : Nat × Nat × Nat := if tIs B e p w = true then (0, 0, tEn B e p) else (1, tS B e p, 0)
def ptI (B : Nat → Nat) (e lo hi p : Nat) : Nat × Nat × Nat := if tSr B e p ≠ 2 then (1, tS B e p, 0) else if lo ≤ tWh B e p ∧ tWh B e p ≤ hi then (0, tWh B e p, tEn B e p) else (4, tS B e p, 0)
def ptN (B : Nat → Nat) (e w lo hi p : Nat) : Nat × Nat × Nat := if tIs B e p w = true then ptI B e lo hi (tEn B e p) else (1, tS B e p, 0)
def rdP (h h' : gH) (B : Nat → Nat) (e : Nat) (r : Nat × Nat × Nat) : Prop := reE h h' ∧ (r.1 = 0 → CTk h' B e r.2.2 ∧ h'.1 1 5 = (r.2.1 : Int)) ∧ (r.1 ≠ 0 → h'.1 1 6 = (r.1 : Int) ∧ h'.1 1 7 = (r.2.1 : Int))
theorem s_stepT {h : gH} {B : Nat → Nat} {e p : Nat} (hC : CTk h B e p) : gSp 3 yX8_step cX8_step 1 none [.ref 2] h (fun v h' => v = none ∧ tpE h h' ∧ CTk h' B e (tEn B e p)) := s_step hC.1 hC.2.2.2.1 (tEn_in hC.2.1).2.1
theorem s_takeWord {h : gH} {B : Nat → Nat} {e p i : Nat} (hC : CTk h B e p) (hi : i < 19) : gSp 6 yX4_takeWord cX4_takeWord 2 (some .boolean) [.ref 1, .ref (1000 + i)] h (fun v h' => v = some (.int (zI (bI (decide ((ptW B e i p).1 = 0))))) ∧ reE h h' ∧ ((ptW B e i p).1 = 0 → CTk h' B e (ptW B e i p).2.2 ∧ h'.1 1 5 = h.1 1 5) ∧ ((ptW B e i p).1 ≠ 0 → h'.1 1 6 = ((ptW B e i p).1 : Int) ∧ h'.1 1 7 = ((ptW B e i p).2.1 : Int))) := by
  have hr : ptW B e i p = if tIs B e p i = true then (0, 0, tEn B e p) else (1, tS B e p, 0) := rfl
  refine gSp_of (by decide +kernel) (Nat.le_of_ble_eq_true rfl) ?_
  show gJ RX4 cX4_takeWord 2 (some .boolean) _ 0 [some (.ref 1), some (.ref (1000 + i))] [] _ _
  refine gj_aload_n (pc' := 1) dX4_takeWord_0 rfl rfl ?_
  refine gf_X4_16 (pc' := 4) dX4_takeWord_1 rfl (by first | rfl | assumption) rfl ?_
  refine gj_aload_n (pc' := 5) dX4_takeWord_4 rfl rfl ?_
  refine gr_X4_81 (pc' := 8) dX4_takeWord_5 rfl (s_spells hC hi) rfl (by first | rfl | assumption) (by decide) rfl (Nat.le_of_ble_eq_true rfl) ?_
  first | refine gj_ifB_ne (pc' := 11) (tgt := 17) dX4_takeWord_8 (by decide) rfl (fun c8 => ?_) (fun c8 => ?_) | refine gj_if_ne (pc' := 11) (tgt := 17) dX4_takeWord_8 (by decide) rfl (by omega) (fun c8 => ?_) (fun c8 => ?_)
  · refine gj_aload_n (pc' := 18) dX4_takeWord_17 rfl rfl ?_
    refine gf_X4_16 (pc' := 21) dX4_takeWord_18 rfl (by first | rfl | assumption) rfl ?_
    refine gc_X4_63 (pc' := 24) dX4_takeWord_21 rfl (s_stepT hC) rfl (by first | rfl | assumption) (by decide) rfl (Nat.le_of_ble_eq_true rfl) (fun v9 h9 q9 => ?_)
    obtain ⟨rfl, q1, q2⟩ := q9
    show gJ _ _ _ _ _ _ _ [] _ _
    refine gj_iconst (pc' := 25) dX4_takeWord_24 rfl ?_
    refine gj_zret rfl (by first | rfl | exact gnZ _ | assumption) dX4_takeWord_25 ?_
    rw [c8, if_pos rfl] at hr
    rw [hr]
    exact ⟨rfl, q1.re, fun _ => ⟨q2, by rw [(q1.2.1 1 (by decide)).1]⟩, fun z => absurd rfl z⟩
  · refine gj_aload_n (pc' := 12) dX4_takeWord_11 rfl rfl ?_
    refine gj_iconst (pc' := 13) dX4_takeWord_12 rfl ?_
    refine gc_X4_66 (pc' := 16) dX4_takeWord_13 rfl (s_fail (k := 1) hC.2.2.1) rfl (by first | rfl | assumption) (by decide) rfl (Nat.le_of_ble_eq_true rfl) (fun v9 h9 q9 => ?_)
    obtain ⟨rfl, q1, q2, q3⟩ := q9
    show gJ _ _ _ _ _ _ _ [.int (zI 0)] _ _
    refine gj_zret rfl (by first | rfl | exact gnZ _ | assumption) dX4_takeWord_16 ?_
    rw [c8, if_neg Bool.false_ne_true] at hr
    rw [hr]
    exact ⟨rfl, q1, fun z => absurd (show (1 : Nat) = 0 from z) (by decide), fun _ => ⟨q2, q3⟩⟩
theorem tWh_le {B : Nat → Nat} {e p : Nat} (hB : ∀ j, j < e → B j < 256) (hp : p ≤ e) (h : tSr B e p = 2) : tWh B e p ≤ 999 := by
  obtain ⟨h1, h2⟩ := tSr_2 h
  have hs := tS_in (B := B) hp
  have hlt : tS B e p < e := by
    rcases Nat.lt_or_ge (tS B e p) e with z | z
    · exact z
    · unfold tSo at h1
      rw [if_neg (by omega)] at h1
      omega
  have hen : tEn B e p = tR B e 2 (tS B e p) := by
    unfold tEn
    rw [h1, if_pos (Or.inr rfl)]
  have hin := (tR_in (B := B) (e := e) (s := 2) (p := tS B e p) (by omega)).2
  have hd : ∀ i, i < tLn B e p → B (tS B e p + i) - 48 ≤ 9 := fun i hi => by
    have := hin (tS B e p + i) (by omega) (by unfold tLn at hi; omega)
    unfold soB at this
    split at this
    · omega
    · split at this
      · omega
      · split at this <;> omega
  have key : ∀ n, n ≤ tLn B e p → whN (fun i => B (tS B e p + i)) n < 10 ^ n := by
    intro n
    induction n with
    | zero => intro _; exact Nat.lt_succ_self 0
    | succ n ih =>
      intro hn
      have a := ih (by omega)
      have b := hd n (by omega)
      show whN (fun i => B (tS B e p + i)) n * 10 + (B (tS B e p + n) - 48) < 10 ^ n * 10
      omega
  have a := key _ (Nat.le_refl _)
  have b : 10 ^ tLn B e p ≤ 10 ^ 3 := Nat.pow_le_pow_right (by omega) h2
  unfold tWh
  omega
theorem CTk.wh {h : gH} {B : Nat → Nat} {e p : Nat} (hC : CTk h B e p) (q : tSr B e p = 2) : tWh B e p ≤ 999 := tWh_le (fun j hj => (hC.1.2.2 j hj).1) hC.2.1 q
theorem s_isNumber {h : gH} {B : Nat → Nat} {e p lo hi : Nat} (hC : CTk h B e p) (hl : lo ≤ 999 ∧ hi ≤ 999) : gSp 3 yX4_isNumber cX4_isNumber 3 (some .boolean) [.ref 1, .int (zI (lo : Int)), .int (zI (hi : Int))] h (fun v h' => v = some (.int (zI (bI (decide ((ptI B e lo hi p).1 = 0))))) ∧ reE h h' ∧ ((ptI B e lo hi p).1 = 0 → h' = h ∧ tSr B e p = 2 ∧ (ptI B e lo hi p).2.1 = tWh B e p ∧ (ptI B e lo hi p).2.2 = tEn B e p) ∧ ((ptI B e lo hi p).1 ≠ 0 → h'.1 1 6 = ((ptI B e lo hi p).1 : Int) ∧ h'.1 1 7 = ((ptI B e lo hi p).2.1 : Int))) := by
  have hr : ptI B e lo hi p = if tSr B e p ≠ 2 then (1, tS B e p, 0) else if lo ≤ tWh B e p ∧ tWh B e p ≤ hi then (0, tWh B e p, tEn B e p) else (4, tS B e p, 0) := rfl
  have h5 := hC.2.2.2.2.1
  have h6 := hC.2.2.2.2.2.2
  have hw := hC.wh
  have hsr := tSr_le B e p
  refine gSp_of (by decide +kernel) (Nat.le_of_ble_eq_true rfl) ?_
  show gJ RX4 cX4_isNumber 3 (some .boolean) _ 0 [some (.ref 1), some (.int (zI (lo : Int))), some (.int (zI (hi : Int)))] [] _ _
  refine gj_aload_n (pc' := 1) dX4_isNumber_0 rfl rfl ?_
  refine gf_X4_16 (pc' := 4) dX4_isNumber_1 rfl (by first | rfl | assumption) rfl ?_
  refine gf_X4_60 (pc' := 7) dX4_isNumber_4 rfl (by first | rfl | assumption) rfl ?_
  rw [h5]
  refine gj_iconst (pc' := 8) dX4_isNumber_7 rfl ?_
  refine gj_icmp_eq (pc' := 11) (tgt := 17) dX4_isNumber_8 (by decide) rfl (by omega) (fun c8 => ?_) (fun c8 => ?_)
  · refine gj_aload_n (pc' := 18) dX4_isNumber_17 rfl rfl ?_
    refine gf_X4_16 (pc' := 21) dX4_isNumber_18 rfl (by first | rfl | assumption) rfl ?_
    refine gf_X4_194 (pc' := 24) dX4_isNumber_21 rfl (by first | rfl | assumption) rfl ?_
    rw [h6 (by omega)]
    refine gj_iload_n (pc' := 25) dX4_isNumber_24 rfl rfl ?_
    refine gj_iload_n (pc' := 26) dX4_isNumber_25 rfl rfl ?_
    have hw9 := hw (by omega)
    refine gr_X4_210 (pc' := 29) dX4_isNumber_26 rfl (x_isWithin (by unfold inB; omega) (by unfold inB; omega) (by unfold inB; omega)) rfl (by decide) rfl (Nat.le_of_ble_eq_true rfl) ?_
    first | refine gj_ifB_ne (pc' := 32) (tgt := 40) dX4_isNumber_29 (by decide) rfl (fun c29 => ?_) (fun c29 => ?_) | refine gj_if_ne (pc' := 32) (tgt := 40) dX4_isNumber_29 (by decide) rfl (by omega) (fun c29 => ?_) (fun c29 => ?_)
    · first | have g29 := of_decide_eq_true c29 | have g29 := of_decide_eq_false c29 | skip
      refine gj_iconst (pc' := 41) dX4_isNumber_40 rfl ?_
      refine gj_goto (pc' := 45) dX4_isNumber_41 (by decide) ?_
      refine gj_zret rfl (by first | rfl | exact gnZ _ | assumption) dX4_isNumber_45 ?_
      first
      | (rw [if_neg (by omega), if_pos (by omega)] at hr
         rw [hr]
         exact ⟨rfl, reE.rf _, fun _ => ⟨rfl, by omega, rfl, rfl⟩, fun z => absurd rfl z⟩)
      | (rw [if_neg (by omega), if_neg (by omega)] at hr
         rw [hr]
         exact ⟨rfl, q1, fun z => absurd (show (4 : Nat) = 0 from z) (by decide), fun _ => ⟨q2, q3⟩⟩)
    · first | have g29 := of_decide_eq_true c29 | have g29 := of_decide_eq_false c29 | skip
      refine gj_aload_n (pc' := 33) dX4_isNumber_32 rfl rfl ?_
      refine gj_iconst (pc' := 34) dX4_isNumber_33 rfl ?_
      refine gc_X4_66 (pc' := 37) dX4_isNumber_34 rfl (s_fail (k := 4) hC.2.2.1) rfl (by first | rfl | assumption) (by decide) rfl (Nat.le_of_ble_eq_true rfl) (fun v9 h9 q9 => ?_)
      obtain ⟨rfl, q1, q2, q3⟩ := q9
      show gJ _ _ _ _ _ _ _ [.int (zI 0)] _ _
      refine gj_if_eq (pc' := 40) (tgt := 44) dX4_isNumber_37 (by decide) rfl (by omega) (fun c37 => ?_) (fun c37 => ?_)
      · first | have g37 := of_decide_eq_true c37 | have g37 := of_decide_eq_false c37 | skip
        refine gj_iconst (pc' := 45) dX4_isNumber_44 rfl ?_
        refine gj_zret rfl (by first | rfl | exact gnZ _ | assumption) dX4_isNumber_45 ?_
        first
        | (rw [if_neg (by omega), if_pos (by omega)] at hr
           rw [hr]
           exact ⟨rfl, reE.rf _, fun _ => ⟨rfl, by omega, rfl, rfl⟩, fun z => absurd rfl z⟩)
        | (rw [if_neg (by omega), if_neg (by omega)] at hr
           rw [hr]
           exact ⟨rfl, q1, fun z => absurd (show (4 : Nat) = 0 from z) (by decide), fun _ => ⟨q2, q3⟩⟩)
      · exfalso; omega
  · refine gj_aload_n (pc' := 12) dX4_isNumber_11 rfl rfl ?_
    refine gj_iconst (pc' := 13) dX4_isNumber_12 rfl ?_
    refine gc_X4_66 (pc' := 16) dX4_isNumber_13 rfl (s_fail (k := 1) hC.2.2.1) rfl (by first | rfl | assumption) (by decide) rfl (Nat.le_of_ble_eq_true rfl) (fun v9 h9 q9 => ?_)
    obtain ⟨rfl, q1, q2, q3⟩ := q9
    show gJ _ _ _ _ _ _ _ [.int (zI 0)] _ _
    refine gj_zret rfl (by first | rfl | exact gnZ _ | assumption) dX4_isNumber_16 ?_
    rw [if_pos (by omega)] at hr
    rw [hr]
    exact ⟨rfl, q1, fun z => absurd (show (1 : Nat) = 0 from z) (by decide), fun _ => ⟨q2, q3⟩⟩
theorem s_takeNumber {h : gH} {B : Nat → Nat} {e p i lo hi : Nat} (hC : CTk h B e p) (hi19 : i < 19) (hl : lo ≤ 999 ∧ hi ≤ 999) : gSp 6 yX4_takeNumber cX4_takeNumber 4 (some .boolean) [.ref 1, .ref (1000 + i), .int (zI (lo : Int)), .int (zI (hi : Int))] h (fun v h' => v = some (.int (zI (bI (decide ((ptN B e i lo hi p).1 = 0))))) ∧ rdP h h' B e (ptN B e i lo hi p)) := by
  have hr : ptN B e i lo hi p = if tIs B e p i = true then ptI B e lo hi (tEn B e p) else (1, tS B e p, 0) := rfl
  refine gSp_of (by decide +kernel) (Nat.le_of_ble_eq_true rfl) ?_
  show gJ RX4 cX4_takeNumber 4 (some .boolean) _ 0 [some (.ref 1), some (.ref (1000 + i)), some (.int (zI (lo : Int))), some (.int (zI (hi : Int)))] [] _ _
  refine gj_aload_n (pc' := 1) dX4_takeNumber_0 rfl rfl ?_
  refine gf_X4_16 (pc' := 4) dX4_takeNumber_1 rfl (by first | rfl | assumption) rfl ?_
  refine gj_aload_n (pc' := 5) dX4_takeNumber_4 rfl rfl ?_
  refine gr_X4_81 (pc' := 8) dX4_takeNumber_5 rfl (s_spells hC hi19) rfl (by first | rfl | assumption) (by decide) rfl (Nat.le_of_ble_eq_true rfl) ?_
  first | refine gj_ifB_ne (pc' := 11) (tgt := 17) dX4_takeNumber_8 (by decide) rfl (fun c8 => ?_) (fun c8 => ?_) | refine gj_if_ne (pc' := 11) (tgt := 17) dX4_takeNumber_8 (by decide) rfl (by omega) (fun c8 => ?_) (fun c8 => ?_)
  · first | have g8 := of_decide_eq_true c8 | have g8 := of_decide_eq_false c8 | skip
    refine gj_aload_n (pc' := 18) dX4_takeNumber_17 rfl rfl ?_
    refine gf_X4_16 (pc' := 21) dX4_takeNumber_18 rfl (by first | rfl | assumption) rfl ?_
    refine gc_X4_63 (pc' := 24) dX4_takeNumber_21 rfl (s_stepT hC) rfl (by first | rfl | assumption) (by decide) rfl (Nat.le_of_ble_eq_true rfl) (fun v9 h9 q9 => ?_)
    obtain ⟨rfl, q1, q2⟩ := q9
    obtain ⟨ha, rfl⟩ : ∃ x, x = h9 := ⟨h9, rfl⟩
    rw [c8, if_pos rfl] at hr
    rw [hr]
    show gJ _ _ _ _ _ _ _ [] _ _
    refine gj_aload_n (pc' := 25) dX4_takeNumber_24 rfl rfl ?_
    refine gj_iload_n (pc' := 26) dX4_takeNumber_25 rfl rfl ?_
    refine gj_iload_n (pc' := 27) dX4_takeNumber_26 rfl rfl ?_
    refine gc_X4_191 (pc' := 30) dX4_takeNumber_27 rfl (s_isNumber q2 hl) rfl (by first | rfl | assumption) (by decide) rfl (Nat.le_of_ble_eq_true rfl) (fun v9 h9 q9 => ?_)
    obtain ⟨rfl, r1, r2, r3⟩ := q9
    obtain ⟨hb, rfl⟩ : ∃ x, x = h9 := ⟨h9, rfl⟩
    show gJ _ _ _ _ _ _ _ [.int (zI (bI _))] _ _
    first | refine gj_ifB_ne (pc' := 33) (tgt := 35) dX4_takeNumber_30 (by decide) rfl (fun c30 => ?_) (fun c30 => ?_) | refine gj_if_ne (pc' := 33) (tgt := 35) dX4_takeNumber_30 (by decide) rfl (by omega) (fun c30 => ?_) (fun c30 => ?_)
    · first | have g30 := of_decide_eq_true c30 | have g30 := of_decide_eq_false c30 | skip
      obtain ⟨rfl, z1, z2, z3⟩ := r2 g30
      refine gj_aload_n (pc' := 36) dX4_takeNumber_35 rfl rfl ?_
      refine gj_aload_n (pc' := 37) dX4_takeNumber_36 rfl rfl ?_
      refine gf_X4_16 (pc' := 40) dX4_takeNumber_37 rfl (by first | rfl | assumption) rfl ?_
      refine gf_X4_194 (pc' := 43) dX4_takeNumber_40 rfl (by first | rfl | assumption) rfl ?_
      rw [q2.2.2.2.2.2.2 z1]
      refine gp_X4_130 (pc' := 46) dX4_takeNumber_43 rfl (by first | rfl | assumption) rfl ?_
      refine gj_aload_n (pc' := 47) dX4_takeNumber_46 rfl rfl ?_
      refine gf_X4_16 (pc' := 50) dX4_takeNumber_47 rfl (by first | rfl | assumption) rfl ?_
      refine gc_X4_63 (pc' := 53) dX4_takeNumber_50 rfl (s_stepT (q2.put (k := 5) (x := (tWh B e (tEn B e p) : Int)))) rfl (by first | rfl | assumption) (by decide) rfl (Nat.le_of_ble_eq_true rfl) (fun v9 h9 q9 => ?_)
      obtain ⟨rfl, u1, u2⟩ := q9
      show gJ _ _ _ _ _ _ _ [] _ _
      refine gj_iconst (pc' := 54) dX4_takeNumber_53 rfl ?_
      refine gj_zret rfl (by first | rfl | exact gnZ _ | assumption) dX4_takeNumber_54 ?_
      exact ⟨by rw [c30]; rfl, q1.re.tr ((reE.put (by decide)).tr u1.re), fun _ => ⟨by rw [z3]; exact u2, by rw [z2, (u1.2.1 1 (by decide)).1, gui_s, up1_s]⟩, fun z => absurd g30 z⟩
    · first | have g30 := of_decide_eq_true c30 | have g30 := of_decide_eq_false c30 | skip
      refine gj_iconst (pc' := 34) dX4_takeNumber_33 rfl ?_
      refine gj_zret rfl (by first | rfl | exact gnZ _ | assumption) dX4_takeNumber_34 ?_
      exact ⟨by rw [c30]; rfl, q1.re.tr r1, fun z => absurd z g30, fun z => r3 z⟩
  · first | have g8 := of_decide_eq_true c8 | have g8 := of_decide_eq_false c8 | skip
    refine gj_aload_n (pc' := 12) dX4_takeNumber_11 rfl rfl ?_
    refine gj_iconst (pc' := 13) dX4_takeNumber_12 rfl ?_
    refine gc_X4_66 (pc' := 16) dX4_takeNumber_13 rfl (s_fail (k := 1) hC.2.2.1) rfl (by first | rfl | assumption) (by decide) rfl (Nat.le_of_ble_eq_true rfl) (fun v9 h9 q9 => ?_)
    obtain ⟨rfl, q1, q2, q3⟩ := q9
    show gJ _ _ _ _ _ _ _ [.int (zI 0)] _ _
    refine gj_zret rfl (by first | rfl | exact gnZ _ | assumption) dX4_takeNumber_16 ?_
    rw [c8, if_neg Bool.false_ne_true] at hr
    rw [hr]
    exact ⟨rfl, q1, fun z => absurd (show (1 : Nat) = 0 from z) (by decide), fun _ => ⟨q2, q3⟩⟩
def ptK (B : Nat → Nat) (e p : Nat) : Nat × Nat × Nat := if tIs B e p 10 = true then (0, 0, tEn B e p) else if tIs B e p 11 = true then (0, 1, tEn B e p) else if tIs B e p 12 = true then (0, 2, tEn B e p) else if tIs B e p 13 = true then (0, 3, tEn B e p) else (1, tS B e p, 0)
theorem s_takeKind {h : gH} {B : Nat → Nat} {e p : Nat} (hC : CTk h B e p) : gSp 6 yX4_takeKind cX4_takeKind 1 (some .boolean) [.ref 1] h (fun v h' => v = some (.int (zI (bI (decide ((ptK B e p).1 = 0))))) ∧ rdP h h' B e (ptK B e p)) := by
  have hr : ptK B e p = if tIs B e p 10 = true then (0, 0, tEn B e p) else if tIs B e p 11 = true then (0, 1, tEn B e p) else if tIs B e p 12 = true then (0, 2, tEn B e p) else if tIs B e p 13 = true then (0, 3, tEn B e p) else (1, tS B e p, 0) := rfl
  have fin : ∀ (k : Nat) (h' : gH), ptK B e p = (0, k, tEn B e p) → tpE (gui h 1 5 (k : Int)) h' → CTk h' B e (tEn B e p) → (some (Value.int (zI 1)) = some (.int (zI (bI (decide ((ptK B e p).1 = 0)))))) ∧ rdP h h' B e (ptK B e p) := fun k h' ek u1 u2 => by
    rw [ek]
    exact ⟨rfl, (reE.put (by decide)).tr u1.re, fun _ => ⟨u2, by rw [(u1.2.1 1 (by decide)).1, gui_s, up1_s]⟩, fun z => absurd rfl z⟩
  refine gSp_of (by decide +kernel) (Nat.le_of_ble_eq_true rfl) ?_
  show gJ RX4 cX4_takeKind 1 (some .boolean) _ 0 [some (.ref 1)] [] _ _
  refine gj_aload_n (pc' := 1) dX4_takeKind_0 rfl rfl ?_
  refine gf_X4_16 (pc' := 4) dX4_takeKind_1 rfl (by first | rfl | assumption) rfl ?_
  refine gj_ldcS (pc' := 6) dX4_takeKind_4 rfl (gstr_X4_225) ?_
  refine gr_X4_81 (pc' := 9) dX4_takeKind_6 rfl (s_spells (i := 10) hC (by decide)) rfl (by first | rfl | assumption) (by decide) rfl (Nat.le_of_ble_eq_true rfl) ?_
  first | refine gj_ifB_eq (pc' := 12) (tgt := 20) dX4_takeKind_9 (by decide) rfl (fun c9 => ?_) (fun c9 => ?_) | refine gj_if_eq (pc' := 12) (tgt := 20) dX4_takeKind_9 (by decide) rfl (by omega) (fun c9 => ?_) (fun c9 => ?_)
  · refine gj_aload_n (pc' := 21) dX4_takeKind_20 rfl rfl ?_
    refine gf_X4_16 (pc' := 24) dX4_takeKind_21 rfl (by first | rfl | assumption) rfl ?_
    refine gj_ldcS (pc' := 26) dX4_takeKind_24 rfl (gstr_X4_227) ?_
    refine gr_X4_81 (pc' := 29) dX4_takeKind_26 rfl (s_spells (i := 11) hC (by decide)) rfl (by first | rfl | assumption) (by decide) rfl (Nat.le_of_ble_eq_true rfl) ?_
    first | refine gj_ifB_eq (pc' := 32) (tgt := 40) dX4_takeKind_29 (by decide) rfl (fun c29 => ?_) (fun c29 => ?_) | refine gj_if_eq (pc' := 32) (tgt := 40) dX4_takeKind_29 (by decide) rfl (by omega) (fun c29 => ?_) (fun c29 => ?_)
    · refine gj_aload_n (pc' := 41) dX4_takeKind_40 rfl rfl ?_
      refine gf_X4_16 (pc' := 44) dX4_takeKind_41 rfl (by first | rfl | assumption) rfl ?_
      refine gj_ldcS (pc' := 46) dX4_takeKind_44 rfl (gstr_X4_229) ?_
      refine gr_X4_81 (pc' := 49) dX4_takeKind_46 rfl (s_spells (i := 12) hC (by decide)) rfl (by first | rfl | assumption) (by decide) rfl (Nat.le_of_ble_eq_true rfl) ?_
      first | refine gj_ifB_eq (pc' := 52) (tgt := 60) dX4_takeKind_49 (by decide) rfl (fun c49 => ?_) (fun c49 => ?_) | refine gj_if_eq (pc' := 52) (tgt := 60) dX4_takeKind_49 (by decide) rfl (by omega) (fun c49 => ?_) (fun c49 => ?_)
      · refine gj_aload_n (pc' := 61) dX4_takeKind_60 rfl rfl ?_
        refine gf_X4_16 (pc' := 64) dX4_takeKind_61 rfl (by first | rfl | assumption) rfl ?_
        refine gj_ldcS (pc' := 66) dX4_takeKind_64 rfl (gstr_X4_231) ?_
        refine gr_X4_81 (pc' := 69) dX4_takeKind_66 rfl (s_spells (i := 13) hC (by decide)) rfl (by first | rfl | assumption) (by decide) rfl (Nat.le_of_ble_eq_true rfl) ?_
        first | refine gj_ifB_eq (pc' := 72) (tgt := 80) dX4_takeKind_69 (by decide) rfl (fun c69 => ?_) (fun c69 => ?_) | refine gj_if_eq (pc' := 72) (tgt := 80) dX4_takeKind_69 (by decide) rfl (by omega) (fun c69 => ?_) (fun c69 => ?_)
        · refine gj_aload_n (pc' := 81) dX4_takeKind_80 rfl rfl ?_
          refine gj_iconst (pc' := 82) dX4_takeKind_81 rfl ?_
          refine gc_X4_66 (pc' := 85) dX4_takeKind_82 rfl (s_fail (k := 1) hC.2.2.1) rfl (by first | rfl | assumption) (by decide) rfl (Nat.le_of_ble_eq_true rfl) (fun v9 h9 q9 => ?_)
          obtain ⟨rfl, q1, q2, q3⟩ := q9
          show gJ _ _ _ _ _ _ _ [.int (zI 0)] _ _
          refine gj_zret rfl (by first | rfl | exact gnZ _ | assumption) dX4_takeKind_85 ?_
          rw [c9, c29, c49, c69, if_neg Bool.false_ne_true, if_neg Bool.false_ne_true, if_neg Bool.false_ne_true, if_neg Bool.false_ne_true] at hr
          rw [hr]
          exact ⟨rfl, q1, fun z => absurd (show (1 : Nat) = 0 from z) (by decide), fun _ => ⟨q2, q3⟩⟩
        · refine gj_aload_n (pc' := 73) dX4_takeKind_72 rfl rfl ?_
          refine gj_iconst (pc' := 74) dX4_takeKind_73 rfl ?_
          refine gp_X4_130 (pc' := 77) dX4_takeKind_74 rfl (by first | rfl | assumption) rfl ?_
          refine gj_goto (pc' := 86) dX4_takeKind_77 (by decide) ?_
          refine gj_aload_n (pc' := 87) dX4_takeKind_86 rfl rfl ?_
          refine gf_X4_16 (pc' := 90) dX4_takeKind_87 rfl (by first | rfl | assumption) rfl ?_
          refine gc_X4_63 (pc' := 93) dX4_takeKind_90 rfl (s_stepT (CTk.put (k := 5) hC)) rfl (by first | rfl | assumption) (by decide) rfl (Nat.le_of_ble_eq_true rfl) (fun v9 h9 q9 => ?_)
          obtain ⟨rfl, u1, u2⟩ := q9
          show gJ _ _ _ _ _ _ _ [] _ _
          refine gj_iconst (pc' := 94) dX4_takeKind_93 rfl ?_
          refine gj_zret rfl (by first | rfl | exact gnZ _ | assumption) dX4_takeKind_94 ?_
          first
          | exact fin 0 _ (by rw [hr, if_pos c9]) u1 u2
          | exact fin 1 _ (by rw [hr, c9, if_neg Bool.false_ne_true, if_pos c29]) u1 u2
          | exact fin 2 _ (by rw [hr, c9, c29, if_neg Bool.false_ne_true, if_neg Bool.false_ne_true, if_pos c49]) u1 u2
          | exact fin 3 _ (by rw [hr, c9, c29, c49, if_neg Bool.false_ne_true, if_neg Bool.false_ne_true, if_neg Bool.false_ne_true, if_pos c69]) u1 u2
      · refine gj_aload_n (pc' := 53) dX4_takeKind_52 rfl rfl ?_
        refine gj_iconst (pc' := 54) dX4_takeKind_53 rfl ?_
        refine gp_X4_130 (pc' := 57) dX4_takeKind_54 rfl (by first | rfl | assumption) rfl ?_
        refine gj_goto (pc' := 86) dX4_takeKind_57 (by decide) ?_
        refine gj_aload_n (pc' := 87) dX4_takeKind_86 rfl rfl ?_
        refine gf_X4_16 (pc' := 90) dX4_takeKind_87 rfl (by first | rfl | assumption) rfl ?_
        refine gc_X4_63 (pc' := 93) dX4_takeKind_90 rfl (s_stepT (CTk.put (k := 5) hC)) rfl (by first | rfl | assumption) (by decide) rfl (Nat.le_of_ble_eq_true rfl) (fun v9 h9 q9 => ?_)
        obtain ⟨rfl, u1, u2⟩ := q9
        show gJ _ _ _ _ _ _ _ [] _ _
        refine gj_iconst (pc' := 94) dX4_takeKind_93 rfl ?_
        refine gj_zret rfl (by first | rfl | exact gnZ _ | assumption) dX4_takeKind_94 ?_
        first
        | exact fin 0 _ (by rw [hr, if_pos c9]) u1 u2
        | exact fin 1 _ (by rw [hr, c9, if_neg Bool.false_ne_true, if_pos c29]) u1 u2
        | exact fin 2 _ (by rw [hr, c9, c29, if_neg Bool.false_ne_true, if_neg Bool.false_ne_true, if_pos c49]) u1 u2
        | exact fin 3 _ (by rw [hr, c9, c29, c49, if_neg Bool.false_ne_true, if_neg Bool.false_ne_true, if_neg Bool.false_ne_true, if_pos c69]) u1 u2
    · refine gj_aload_n (pc' := 33) dX4_takeKind_32 rfl rfl ?_
      refine gj_iconst (pc' := 34) dX4_takeKind_33 rfl ?_
      refine gp_X4_130 (pc' := 37) dX4_takeKind_34 rfl (by first | rfl | assumption) rfl ?_
      refine gj_goto (pc' := 86) dX4_takeKind_37 (by decide) ?_
      refine gj_aload_n (pc' := 87) dX4_takeKind_86 rfl rfl ?_
      refine gf_X4_16 (pc' := 90) dX4_takeKind_87 rfl (by first | rfl | assumption) rfl ?_
      refine gc_X4_63 (pc' := 93) dX4_takeKind_90 rfl (s_stepT (CTk.put (k := 5) hC)) rfl (by first | rfl | assumption) (by decide) rfl (Nat.le_of_ble_eq_true rfl) (fun v9 h9 q9 => ?_)
      obtain ⟨rfl, u1, u2⟩ := q9
      show gJ _ _ _ _ _ _ _ [] _ _
      refine gj_iconst (pc' := 94) dX4_takeKind_93 rfl ?_
      refine gj_zret rfl (by first | rfl | exact gnZ _ | assumption) dX4_takeKind_94 ?_
      first
      | exact fin 0 _ (by rw [hr, if_pos c9]) u1 u2
      | exact fin 1 _ (by rw [hr, c9, if_neg Bool.false_ne_true, if_pos c29]) u1 u2
      | exact fin 2 _ (by rw [hr, c9, c29, if_neg Bool.false_ne_true, if_neg Bool.false_ne_true, if_pos c49]) u1 u2
      | exact fin 3 _ (by rw [hr, c9, c29, c49, if_neg Bool.false_ne_true, if_neg Bool.false_ne_true, if_neg Bool.false_ne_true, if_pos c69]) u1 u2
  · refine gj_aload_n (pc' := 13) dX4_takeKind_12 rfl rfl ?_
    refine gj_iconst (pc' := 14) dX4_takeKind_13 rfl ?_
    refine gp_X4_130 (pc' := 17) dX4_takeKind_14 rfl (by first | rfl | assumption) rfl ?_
    refine gj_goto (pc' := 86) dX4_takeKind_17 (by decide) ?_
    refine gj_aload_n (pc' := 87) dX4_takeKind_86 rfl rfl ?_
    refine gf_X4_16 (pc' := 90) dX4_takeKind_87 rfl (by first | rfl | assumption) rfl ?_
    refine gc_X4_63 (pc' := 93) dX4_takeKind_90 rfl (s_stepT (CTk.put (k := 5) hC)) rfl (by first | rfl | assumption) (by decide) rfl (Nat.le_of_ble_eq_true rfl) (fun v9 h9 q9 => ?_)
    obtain ⟨rfl, u1, u2⟩ := q9
    show gJ _ _ _ _ _ _ _ [] _ _
    refine gj_iconst (pc' := 94) dX4_takeKind_93 rfl ?_
    refine gj_zret rfl (by first | rfl | exact gnZ _ | assumption) dX4_takeKind_94 ?_
    first
    | exact fin 0 _ (by rw [hr, if_pos c9]) u1 u2
    | exact fin 1 _ (by rw [hr, c9, if_neg Bool.false_ne_true, if_pos c29]) u1 u2
    | exact fin 2 _ (by rw [hr, c9, c29, if_neg Bool.false_ne_true, if_neg Bool.false_ne_true, if_pos c49]) u1 u2
    | exact fin 3 _ (by rw [hr, c9, c29, c49, if_neg Bool.false_ne_true, if_neg Bool.false_ne_true, if_neg Bool.false_ne_true, if_pos c69]) u1 u2
