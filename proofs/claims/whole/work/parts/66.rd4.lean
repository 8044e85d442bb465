/-! the class's Reader: a line and what it leaves; the loft's line -/
def bd (r : Nat × Nat × Nat) (f : Nat → Nat → Nat × Nat × (Nat → Nat)) : Nat × Nat × (Nat → Nat) := if r.1 = 0 then f r.2.1 r.2.2 else (r.1, r.2.1, fun _ => 0)
theorem bd_0 {r : Nat × Nat × Nat} {f : Nat → Nat → Nat × Nat × (Nat → Nat)} (g : r.1 = 0) : bd r f = f r.2.1 r.2.2 := if_pos g
theorem bd_1 {r : Nat × Nat × Nat} {f : Nat → Nat → Nat × Nat × (Nat → Nat)} (g : ¬ r.1 = 0) : bd r f = (r.1, r.2.1, fun _ => 0) := if_neg g
def uT (T : Nat → Nat) (k v : Nat) : Nat → Nat := fun x => if x = k then v else T x
theorem uT_n {T : Nat → Nat} {k v x : Nat} (q : x ≠ k) : uT T k v x = T x := if_neg q
theorem uT_s {T : Nat → Nat} {k v : Nat} : uT T k v k = v := if_pos rfl
/-- bounds of what was told so far -/
def TL (T : Nat → Nat) : Prop := (T 0 ≤ 50 ∧ T 1 ≤ 100 ∧ T 2 ≤ 100 ∧ T 3 ≤ 6 ∧ T 4 ≤ 7 ∧ T 5 ≤ 3 ∧ T 6 ≤ 5) ∧ (∀ n, n < T 3 → T (7 + 2 * n) ≤ 99 ∧ T (8 + 2 * n) ≤ 300) ∧ (∀ b, b < T 4 → T (19 + 5 * b) ≤ 3 ∧ T (20 + 5 * b) < T 3 ∧ T (21 + 5 * b) < T 3 ∧ T (20 + 5 * b) ≠ T (21 + 5 * b) ∧ T (22 + 5 * b) ≤ 30 ∧ 1 ≤ T (23 + 5 * b) ∧ T (23 + 5 * b) ≤ 60) ∧ (∀ s, s < T 5 → T (54 + 2 * s) < T 3 ∧ T (55 + 2 * s) ≤ 30) ∧ (∀ n, n < T 6 → T (60 + 3 * n) < T 3 ∧ T (61 + 3 * n) ≤ 30 ∧ T (62 + 3 * n) ≤ 9) ∧ (∀ n, n < 16 → (T (75 + n) ≠ 0 ↔ n < T 3 ∨ (6 ≤ n ∧ n < 6 + T 4) ∨ (13 ≤ n ∧ n < 13 + T 5)))
def LI (h : gH) (B : Nat → Nat) (e p t : Nat) (T : Nat → Nat) : Prop := CTk h B e p ∧ (∃ m sl, CN h T m sl) ∧ NU T ∧ TownA h t T ∧ StrA h t T ∧ h.2.2 1 = t ∧ h.1 1 4 = bI (decide (T 0 ≠ 0)) ∧ TL T
/-- what a line leaves -/
def frE (h h' : gH) (t : Nat) : Prop := h'.2.2 = h.2.2 ∧ (∀ o, o ≠ 1 → o ≠ 2 → o ≠ 5 → (o < t ∨ t + 22 < o) → h'.1 o = h.1 o) ∧ (∀ o, o ≠ 2 → o ≠ 4 → h'.2.1 o = h.2.1 o) ∧ (∀ k, (k < 3 ∨ 7 < k) → h'.1 1 k = h.1 1 k) ∧ (∀ k, k < 3 → h'.1 2 k = h.1 2 k)
theorem rnE.fr {h h' : gH} (t : Nat) (a : rnE h h') : frE h h' t := ⟨a.1, fun o o1 o2 o5 _ => a.2.1 o o1 o2 o5, a.2.2.1, fun k hk => a.2.2.2.1 k (by omega), a.2.2.2.2⟩
theorem reE.fr {h h' : gH} (t : Nat) (a : reE h h') : frE h h' t := a.rn.fr t
theorem frE.tr {h h1 h2 : gH} {t : Nat} (a : frE h h1 t) (b : frE h1 h2 t) : frE h h2 t := ⟨b.1.trans a.1, fun o o1 o2 o5 ot => (b.2.1 o o1 o2 o5 ot).trans (a.2.1 o o1 o2 o5 ot), fun o o2 o4 => (b.2.2.1 o o2 o4).trans (a.2.2.1 o o2 o4), fun k hk => (b.2.2.2.1 k hk).trans (a.2.2.2.1 k hk), fun k hk => (b.2.2.2.2 k hk).trans (a.2.2.2.2 k hk)⟩
theorem frE.put {h : gH} {t o k : Nat} {x : Int} (ht : isT t) (ho : t ≤ o ∧ o ≤ t + 22) : frE h (gui h o k x) t := by
  have htt : t = 6 ∨ t = 29 := ht
  exact ⟨rfl, fun i _ _ _ ot => gui_n (by omega), fun _ _ _ => rfl, fun i _ => by rw [gui_n (by omega)], fun i _ => by rw [gui_n (by omega)]⟩
theorem frE.lof {h : gH} {t : Nat} {x : Int} : frE h (gui h 1 4 x) t := ⟨rfl, fun o o1 _ _ _ => gui_n o1, fun _ _ _ => rfl, fun i hi => by rw [gui_s, up1_n (by omega)], fun i _ => by rw [gui_n (by decide)]⟩
def lnQ (h : gH) (B : Nat → Nat) (e t : Nat) (r : Nat × Nat × (Nat → Nat)) (v : Option Value) (h' : gH) : Prop := v = some (.int (zI (bI (decide (r.1 = 0))))) ∧ frE h h' t ∧ (r.1 = 0 → LI h' B e r.2.1 t r.2.2) ∧ (r.1 ≠ 0 → h'.1 1 6 = (r.1 : Int) ∧ h'.1 1 7 = (r.2.1 : Int))
theorem lnQ_1 {h h' : gH} {B : Nat → Nat} {e t : Nat} {r : Nat × Nat × Nat} {f : Nat → Nat → Nat × Nat × (Nat → Nat)} (g : ¬ r.1 = 0) (fr : frE h h' t) (a3 : r.1 ≠ 0 → h'.1 1 6 = (r.1 : Int) ∧ h'.1 1 7 = (r.2.1 : Int)) : lnQ h B e t (bd r f) (some (.int (zI 0))) h' := by
  rw [bd_1 g]
  refine ⟨?_, fr, fun z => absurd z g, fun z => a3 z⟩
  show some (Value.int (zI 0)) = some (.int (zI (bI (decide (r.1 = 0)))))
  rw [decide_eq_false g]
  rfl
theorem lnQ_0 {h h' : gH} {B : Nat → Nat} {e t p : Nat} {T : Nat → Nat} (fr : frE h h' t) (a : LI h' B e p t T) : lnQ h B e t (0, p, T) (some (.int (zI 1))) h' := ⟨rfl, fr, fun _ => a, fun z => absurd rfl z⟩
theorem ptI_b {B : Nat → Nat} {e lo hi p : Nat} (g : (ptI B e lo hi p).1 = 0) : lo ≤ (ptI B e lo hi p).2.1 ∧ (ptI B e lo hi p).2.1 ≤ hi := by
  have hr : ptI B e lo hi p = if tSr B e p ≠ 2 then (1, tS B e p, 0) else if lo ≤ tWh B e p ∧ tWh B e p ≤ hi then (0, tWh B e p, tEn B e p) else (4, tS B e p, 0) := rfl
  by_cases q : tSr B e p ≠ 2
  · rw [if_pos q] at hr
    rw [hr] at g
    exact absurd (show (1 : Nat) = 0 from g) (by decide)
  · rw [if_neg q] at hr
    by_cases q2 : lo ≤ tWh B e p ∧ tWh B e p ≤ hi
    · rw [if_pos q2] at hr
      rw [hr]
      exact q2
    · rw [if_neg q2] at hr
      rw [hr] at g
      exact absurd (show (4 : Nat) = 0 from g) (by decide)
theorem ptN_b {B : Nat → Nat} {e i lo hi p : Nat} (g : (ptN B e i lo hi p).1 = 0) : lo ≤ (ptN B e i lo hi p).2.1 ∧ (ptN B e i lo hi p).2.1 ≤ hi := by
  have hr : ptN B e i lo hi p = if tIs B e p i = true then ptI B e lo hi (tEn B e p) else (1, tS B e p, 0) := rfl
  by_cases q : tIs B e p i = true
  · rw [if_pos q] at hr
    rw [hr] at g ⊢
    exact ptI_b g
  · rw [if_neg q] at hr
    rw [hr] at g
    exact absurd (show (1 : Nat) = 0 from g) (by decide)
theorem nmC_cg {T T' : Nat → Nat} (e : ∀ x, 75 ≤ x → T' x = T x) (n : Nat) : nmC T' n = nmC T n := by
  unfold nmC
  rw [e _ (by omega)]
  exact wdN_cg (fun i _ => e _ (by omega))
theorem NU.cg {T T' : Nat → Nat} (a : NU T) (e : ∀ x, 75 ≤ x → T' x = T x) : NU T' := by
  refine ⟨fun n hn => ?_, fun n n' hn hn' h1 h2 he => ?_⟩
  · rw [e _ (by omega)]
    exact ⟨(a.1 n hn).1, fun k hk => by rw [e _ (by omega)]; exact (a.1 n hn).2 k hk⟩
  · rw [e _ (by omega)] at h1 h2
    rw [nmC_cg e, nmC_cg e] at he
    exact a.2 n n' hn hn' h1 h2 he
theorem CN.cg {h : gH} {T T' : Nat → Nat} {m : Nat} {sl : Nat → Nat} (a : CN h T m sl) (e : ∀ x, 75 ≤ x → T' x = T x) : CN h T' m sl := by
  obtain ⟨a0, a1, a2, a3⟩ := a
  refine ⟨a0, fun i hi => ?_, fun n hn hne => ?_, a3⟩
  · rw [nmC_cg e, e _ (by omega)]
    exact a1 i hi
  · rw [e _ (by omega)] at hne
    exact a2 n hn hne
theorem TownA.up {h h' : gH} {t : Nat} {T T' : Nat → Nat} (a : TownA h t T) (h5 : ∀ k, k < 5 → h'.1 t k = (T' k : Int)) (e3 : T' 3 = T 3) (e4 : T' 4 = T 4) (ex : ∀ x, 5 ≤ x → x < 75 → T' x = T x) (h3 : T 3 ≤ 6) (h4 : T 4 ≤ 7) (eo : ∀ o, t + 1 ≤ o → o ≤ t + 7 → h'.1 o = h.1 o) : TownA h' t T' := by
  obtain ⟨-, a1, a2⟩ := a
  refine ⟨h5, fun k hk => ?_, fun b hb => ?_⟩
  · rw [e3] at hk
    rw [eo _ (by omega) (by omega), eo _ (by omega) (by omega), ex _ (by omega) (by omega), ex _ (by omega) (by omega)]
    exact a1 k hk
  · rw [e4] at hb
    unfold tNe
    rw [eo _ (by omega) (by omega), eo _ (by omega) (by omega), eo _ (by omega) (by omega), eo _ (by omega) (by omega), eo _ (by omega) (by omega), ex _ (by omega) (by omega), ex _ (by omega) (by omega), ex _ (by omega) (by omega), ex _ (by omega) (by omega), ex _ (by omega) (by omega)]
    exact a2 b hb
theorem StrA.up {h h' : gH} {t : Nat} {T T' : Nat → Nat} (a : StrA h t T) (e5 : T' 5 = T 5) (e6 : T' 6 = T 6) (ex : ∀ x, 54 ≤ x → x < 75 → T' x = T x) (h5 : T 5 ≤ 3) (h6 : T 6 ≤ 5) (eo : ∀ o, t + 10 ≤ o → o ≤ t + 19 → h'.1 o = h.1 o) : StrA h' t T' := by
  obtain ⟨a0, a1, a2, a3⟩ := a
  refine ⟨by rw [eo _ (by omega) (by omega), e5]; exact a0, by rw [eo _ (by omega) (by omega), e6]; exact a1, fun s hs => ?_, fun k hk => ?_⟩
  · rw [e5] at hs
    rw [eo _ (by omega) (by omega), eo _ (by omega) (by omega), ex _ (by omega) (by omega), ex _ (by omega) (by omega)]
    exact a2 s hs
  · rw [e6] at hk
    rw [eo _ (by omega) (by omega), eo _ (by omega) (by omega), eo _ (by omega) (by omega), ex _ (by omega) (by omega), ex _ (by omega) (by omega), ex _ (by omega) (by omega)]
    exact a3 k hk
def lnL (B : Nat → Nat) (e : Nat) (T : Nat → Nat) (p : Nat) : Nat × Nat × (Nat → Nat) := bd (ptN B e 5 1 50 (tEn B e p)) (fun w p1 => bd (ptN B e 6 0 100 p1) (fun k p2 => bd (ptN B e 7 0 100 p2) (fun s p3 => (0, p3, uT (uT (uT T 0 w) 1 k) 2 s))))
theorem s_readLoft {h : gH} {B : Nat → Nat} {e p t : Nat} {T : Nat → Nat} (ht : isT t) (hI : LI h B e p t T) (h0 : T 0 = 0) : gSp 8 yX4_readLoft cX4_readLoft 1 (some .boolean) [.ref 1] h (lnQ h B e t (lnL B e T p)) := by
  obtain ⟨hC, ⟨m, sl, hN⟩, hU, hTA, hSA, hD, hL, hTL⟩ := hI
  obtain ⟨t0, -⟩ := shT ht
  have htt : t = 6 ∨ t = 29 := ht
  have hr : lnL B e T p = bd (ptN B e 5 1 50 (tEn B e p)) (fun w p1 => bd (ptN B e 6 0 100 p1) (fun k p2 => bd (ptN B e 7 0 100 p2) (fun s p3 => (0, p3, uT (uT (uT T 0 w) 1 k) 2 s)))) := rfl
  refine gSp_of (by decide +kernel) (Nat.le_of_ble_eq_true rfl) ?_
  show gJ RX4 cX4_readLoft 1 (some .boolean) _ 0 [some (.ref 1)] [] _ _
  refine gj_aload_n (pc' := 1) dX4_readLoft_0 rfl rfl ?_
  refine gf_X4_16 (pc' := 4) dX4_readLoft_1 rfl (by first | rfl | assumption) rfl ?_
  refine gc_X4_63 (pc' := 7) dX4_readLoft_4 rfl (s_stepT hC) rfl (by first | rfl | assumption) (by decide) rfl (Nat.le_of_ble_eq_true rfl) (fun v9 h9 q9 => ?_)
  obtain ⟨rfl, q1, q2⟩ := q9
  obtain ⟨ha, rfl⟩ : ∃ x, x = h9 := ⟨h9, rfl⟩
  show gJ _ _ _ _ _ _ _ [] _ _
  refine gj_aload_n (pc' := 8) dX4_readLoft_7 rfl rfl ?_
  refine gj_ldcS (pc' := 10) dX4_readLoft_8 rfl (gstr_X4_124) ?_
  refine gj_iconst (pc' := 11) dX4_readLoft_10 rfl ?_
  refine gj_bipush (pc' := 13) dX4_readLoft_11 rfl (by decide) ?_
  refine gc_X4_126 (pc' := 16) dX4_readLoft_13 rfl (s_takeNumber (i := 5) (lo := 1) (hi := 50) q2 (by decide) (by decide)) rfl (by first | rfl | assumption) (by decide) rfl (Nat.le_of_ble_eq_true rfl) (fun v9 h9 q9 => ?_)
  obtain ⟨rfl, a1, a2, a3⟩ := q9
  obtain ⟨hb, rfl⟩ : ∃ x, x = h9 := ⟨h9, rfl⟩
  have f1 : frE h hb t := (q1.re.tr a1).fr t
  have hDb : hb.2.2 1 = t := by rw [f1.1]; exact hD
  show gJ _ _ _ _ _ _ _ [.int (zI (bI _))] _ _
  first | refine gj_ifB_ne (pc' := 19) (tgt := 21) dX4_readLoft_16 (by decide) rfl (fun c16 => ?_) (fun c16 => ?_) | refine gj_if_ne (pc' := 19) (tgt := 21) dX4_readLoft_16 (by decide) rfl (by omega) (fun c16 => ?_) (fun c16 => ?_)
  · first | have g16 := of_decide_eq_true c16 | have g16 := of_decide_eq_false c16 | skip
    obtain ⟨b1, b2⟩ := a2 g16
    have hw := ptN_b g16
    rw [bd_0 g16] at hr
    refine gj_aload_n (pc' := 22) dX4_readLoft_21 rfl rfl ?_
    refine gf_X4_31 (pc' := 25) dX4_readLoft_22 rfl (by first | rfl | assumption) rfl ?_
    rw [hDb]
    refine gj_aload_n (pc' := 26) dX4_readLoft_25 rfl rfl ?_
    refine gf_X4_130 (pc' := 29) dX4_readLoft_26 rfl (by first | rfl | assumption) rfl ?_
    rw [b2]
    refine gp_X4_133 (pc' := 32) dX4_readLoft_29 rfl (by first | rfl | assumption) rfl ?_
    refine gj_aload_n (pc' := 33) dX4_readLoft_32 rfl rfl ?_
    refine gj_ldcS (pc' := 35) dX4_readLoft_33 rfl (gstr_X4_135) ?_
    refine gj_iconst (pc' := 36) dX4_readLoft_35 rfl ?_
    refine gj_bipush (pc' := 38) dX4_readLoft_36 rfl (by decide) ?_
    refine gc_X4_126 (pc' := 41) dX4_readLoft_38 rfl (s_takeNumber (i := 6) (lo := 0) (hi := 100) (b1.to (gui_n (by omega)) (gui_n (by omega)) rfl (by rw [gui_n (by omega)])) (by decide) (by decide)) rfl (by first | rfl | assumption) (by decide) rfl (Nat.le_of_ble_eq_true rfl) (fun v9 h9 q9 => ?_)
    obtain ⟨rfl, c1, c2, c3⟩ := q9
    obtain ⟨hc, rfl⟩ : ∃ x, x = h9 := ⟨h9, rfl⟩
    have f2 : frE h hc t := f1.tr ((frE.put ht (by omega)).tr (c1.fr t))
    have hDc : hc.2.2 1 = t := by rw [f2.1]; exact hD
    show gJ _ _ _ _ _ _ _ [.int (zI (bI _))] _ _
    first | refine gj_ifB_ne (pc' := 44) (tgt := 46) dX4_readLoft_41 (by decide) rfl (fun c41 => ?_) (fun c41 => ?_) | refine gj_if_ne (pc' := 44) (tgt := 46) dX4_readLoft_41 (by decide) rfl (by omega) (fun c41 => ?_) (fun c41 => ?_)
    · first | have g41 := of_decide_eq_true c41 | have g41 := of_decide_eq_false c41 | skip
      obtain ⟨b3, b4⟩ := c2 g41
      have hk := ptN_b g41
      rw [bd_0 g41] at hr
      refine gj_aload_n (pc' := 47) dX4_readLoft_46 rfl rfl ?_
      refine gf_X4_31 (pc' := 50) dX4_readLoft_47 rfl (by first | rfl | assumption) rfl ?_
      rw [hDc]
      refine gj_aload_n (pc' := 51) dX4_readLoft_50 rfl rfl ?_
      refine gf_X4_130 (pc' := 54) dX4_readLoft_51 rfl (by first | rfl | assumption) rfl ?_
      rw [b4]
      refine gp_X4_137 (pc' := 57) dX4_readLoft_54 rfl (by first | rfl | assumption) rfl ?_
      refine gj_aload_n (pc' := 58) dX4_readLoft_57 rfl rfl ?_
      refine gj_ldcS (pc' := 60) dX4_readLoft_58 rfl (gstr_X4_139) ?_
      refine gj_iconst (pc' := 61) dX4_readLoft_60 rfl ?_
      refine gj_bipush (pc' := 63) dX4_readLoft_61 rfl (by decide) ?_
      refine gc_X4_126 (pc' := 66) dX4_readLoft_63 rfl (s_takeNumber (i := 7) (lo := 0) (hi := 100) (b3.to (gui_n (by omega)) (gui_n (by omega)) rfl (by rw [gui_n (by omega)])) (by decide) (by decide)) rfl (by first | rfl | assumption) (by decide) rfl (Nat.le_of_ble_eq_true rfl) (fun v9 h9 q9 => ?_)
      obtain ⟨rfl, d1, d2, d3⟩ := q9
      obtain ⟨hd, rfl⟩ : ∃ x, x = h9 := ⟨h9, rfl⟩
      have f3 : frE h hd t := f2.tr ((frE.put ht (by omega)).tr (d1.fr t))
      have hDd : hd.2.2 1 = t := by rw [f3.1]; exact hD
      show gJ _ _ _ _ _ _ _ [.int (zI (bI _))] _ _
      first | refine gj_ifB_ne (pc' := 69) (tgt := 71) dX4_readLoft_66 (by decide) rfl (fun c66 => ?_) (fun c66 => ?_) | refine gj_if_ne (pc' := 69) (tgt := 71) dX4_readLoft_66 (by decide) rfl (by omega) (fun c66 => ?_) (fun c66 => ?_)
      · first | have g66 := of_decide_eq_true c66 | have g66 := of_decide_eq_false c66 | skip
        obtain ⟨b5, b6⟩ := d2 g66
        have hs := ptN_b g66
        rw [bd_0 g66] at hr
        refine gj_aload_n (pc' := 72) dX4_readLoft_71 rfl rfl ?_
        refine gf_X4_31 (pc' := 75) dX4_readLoft_72 rfl (by first | rfl | assumption) rfl ?_
        rw [hDd]
        refine gj_aload_n (pc' := 76) dX4_readLoft_75 rfl rfl ?_
        refine gf_X4_130 (pc' := 79) dX4_readLoft_76 rfl (by first | rfl | assumption) rfl ?_
        rw [b6]
        refine gp_X4_141 (pc' := 82) dX4_readLoft_79 rfl (by first | rfl | assumption) rfl ?_
        refine gj_aload_n (pc' := 83) dX4_readLoft_82 rfl rfl ?_
        refine gj_iconst (pc' := 84) dX4_readLoft_83 rfl ?_
        refine gp_X4_45 (pc' := 87) dX4_readLoft_84 rfl (by first | exact Or.inl rfl | exact Or.inr rfl | assumption) (by first | rfl | assumption) rfl ?_
        refine gj_iconst (pc' := 88) dX4_readLoft_87 rfl ?_
        refine gj_zret rfl (by first | rfl | exact gnZ _ | assumption) dX4_readLoft_88 ?_
        rw [hr]
        have hTL' := hTL
        obtain ⟨⟨l0, l1, l2, l3, l4, l5, l6⟩, l7, l8, l9, l10, l11⟩ := hTL'
        obtain ⟨w, hw'⟩ : ∃ w, w = (ptN B e 5 1 50 (tEn B e p)).2.1 := ⟨_, rfl⟩
        obtain ⟨k1, hk'⟩ : ∃ w, w = (ptN B e 6 0 100 (ptN B e 5 1 50 (tEn B e p)).2.2).2.1 := ⟨_, rfl⟩
        obtain ⟨s1, hs'⟩ : ∃ w, w = (ptN B e 7 0 100 (ptN B e 6 0 100 (ptN B e 5 1 50 (tEn B e p)).2.2).2.2).2.1 := ⟨_, rfl⟩
        rw [← hw'] at hw b2
        rw [← hk'] at hk b4
        rw [← hs'] at hs b6
        rw [← hw', ← hk', ← hs']
        have eo : ∀ o, o ≠ 1 → o ≠ 2 → o ≠ t → hd.1 o = h.1 o := fun o o1 o2 ot => by
          rw [d1.2.1 o o1 o2, gui_n ot, c1.2.1 o o1 o2, gui_n ot, a1.2.1 o o1 o2, (q1.2.1 o o2).1]
        have et : hd.1 t = up1 (up1 (h.1 t) 0 (w : Int)) 1 (k1 : Int) := by
          rw [d1.2.1 t (by omega) (by omega), gui_s, c1.2.1 t (by omega) (by omega), gui_s, a1.2.1 t (by omega) (by omega), (q1.2.1 t (by omega)).1, ← hw', ← hk']
        have ex : ∀ x, 3 ≤ x → uT (uT (uT T 0 w) 1 k1) 2 s1 x = T x := fun x hx => by rw [uT_n (by omega), uT_n (by omega), uT_n (by omega)]
        have e1 : (uT (uT (uT T 0 w) 1 k1) 2 s1) 0 = w := rfl
        have e2 : (uT (uT (uT T 0 w) 1 k1) 2 s1) 1 = k1 := rfl
        have e3 : (uT (uT (uT T 0 w) 1 k1) 2 s1) 2 = s1 := rfl
        have b7 : CTk (gui hd t 2 (s1 : Int)) B e _ := b5.to (gui_n (by omega)) (gui_n (by omega)) rfl (by rw [gui_n (by omega)])
        refine lnQ_0 (f3.tr ((frE.put ht (by omega)).tr frE.lof)) ⟨b7.put, ⟨m, sl, ?_⟩, hU.cg (fun x hx => ex x (by omega)), ?_, ?_, hDd, ?_, ?_⟩
        · refine (hN.cg (fun x hx => ex x (by omega))).to ?_ ?_ ?_
          · rw [gui_s, up1_n (by decide), gui_n (by omega), d1.2.2.2.1 3 (by decide), gui_n (by omega), c1.2.2.2.1 3 (by decide), gui_n (by omega), a1.2.2.2.1 3 (by decide), (q1.2.1 1 (by decide)).1]
          · rw [gui_n (by decide), gui_n (by omega)]
            exact eo 5 (by decide) (by decide) (by omega)
          · show hd.2.1 4 = h.2.1 4
            rw [d1.2.2.1 4 (by decide)]
            show hc.2.1 4 = h.2.1 4
            rw [c1.2.2.1 4 (by decide)]
            show hb.2.1 4 = h.2.1 4
            rw [a1.2.2.1 4 (by decide), (q1.2.1 4 (by decide)).2]
        · refine hTA.up (fun k hk5 => ?_) (ex 3 (by decide)) (ex 4 (by decide)) (fun x hx _ => ex x (by omega)) l3 l4 (fun o o1 o2 => by rw [gui_n (by omega), gui_n (by omega)]; exact eo o (by omega) (by omega) (by omega))
          rw [gui_n (by omega), gui_s, et]
          rcases (show k = 0 ∨ k = 1 ∨ k = 2 ∨ k = 3 ∨ k = 4 by omega) with rfl | rfl | rfl | rfl | rfl
          · rfl
          · rfl
          · rfl
          · exact hTA.1 3 (by decide)
          · exact hTA.1 4 (by decide)
        · exact hSA.up (ex 5 (by decide)) (ex 6 (by decide)) (fun x hx _ => ex x (by omega)) l5 l6 (fun o o1 o2 => by rw [gui_n (by omega), gui_n (by omega)]; exact eo o (by omega) (by omega) (by omega))
        · rw [gui_s, up1_s, e1, decide_eq_true (show w ≠ 0 by omega)]
          rfl
        · refine ⟨⟨by rw [e1]; omega, by rw [e2]; omega, by rw [e3]; omega, by rw [ex _ (by decide)]; exact l3, by rw [ex _ (by decide)]; exact l4, by rw [ex _ (by decide)]; exact l5, by rw [ex _ (by decide)]; exact l6⟩, ?_, ?_, ?_, ?_, ?_⟩
          · intro n hn
            rw [ex 3 (by decide)] at hn
            rw [ex _ (by omega), ex _ (by omega)]
            exact l7 n hn
          · intro n hn
            rw [ex 4 (by decide)] at hn
            rw [ex 3 (by decide), ex _ (by omega), ex _ (by omega), ex _ (by omega), ex _ (by omega), ex _ (by omega)]
            exact l8 n hn
          · intro n hn
            rw [ex 5 (by decide)] at hn
            rw [ex 3 (by decide), ex _ (by omega), ex _ (by omega)]
            exact l9 n hn
          · intro n hn
            rw [ex 6 (by decide)] at hn
            rw [ex 3 (by decide), ex _ (by omega), ex _ (by omega), ex _ (by omega)]
            exact l10 n hn
          · intro n hn
            rw [ex 3 (by decide), ex 4 (by decide), ex 5 (by decide), ex _ (by omega)]
            exact l11 n hn
      · first | have g66 := of_decide_eq_true c66 | have g66 := of_decide_eq_false c66 | skip
        refine gj_iconst (pc' := 70) dX4_readLoft_69 rfl ?_
        refine gj_zret rfl (by first | rfl | exact gnZ _ | assumption) dX4_readLoft_70 ?_
        rw [hr]
        exact lnQ_1 g66 f3 d3
    · first | have g41 := of_decide_eq_true c41 | have g41 := of_decide_eq_false c41 | skip
      refine gj_iconst (pc' := 45) dX4_readLoft_44 rfl ?_
      refine gj_zret rfl (by first | rfl | exact gnZ _ | assumption) dX4_readLoft_45 ?_
      rw [hr]
      exact lnQ_1 g41 f2 c3
  · first | have g16 := of_decide_eq_true c16 | have g16 := of_decide_eq_false c16 | skip
    refine gj_iconst (pc' := 20) dX4_readLoft_19 rfl ?_
    refine gj_zret rfl (by first | rfl | exact gnZ _ | assumption) dX4_readLoft_20 ?_
    rw [hr]
    exact lnQ_1 g16 f1 a3
