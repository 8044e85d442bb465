/-! the model's reader: words, names, numbers -/
def ML (h : gH) (B : Nat → Nat) (e p : Nat) (T : Nat → Nat) : Prop := h.1 142 13 = 0 ∧ MTk h B e p ∧ ∀ k, k < 219 → h.1 146 k = (T k : Int)
def MF (h : gH) (k s : Nat) : Prop := h.1 142 13 = 1 ∧ h.1 142 9 = (k : Int) ∧ h.1 142 10 = (s : Int)
/-- going on at a place, or stopped by a fault -/
def MM (h : gH) (B : Nat → Nat) (e : Nat) (T : Nat → Nat) (x : Nat × Nat) : Prop := (x.1 = 0 → ML h B e x.2 T) ∧ (x.1 ≠ 0 → MF h x.1 x.2)
/-- while no fault is told, none was, and its number stays -/
def mxE (h h' : gH) : Prop := h'.1 142 13 = 0 → h.1 142 13 = 0 ∧ h'.1 142 9 = h.1 142 9
theorem mxE.tr {h h1 h2 : gH} (a : mxE h h1) (b : mxE h1 h2) : mxE h h2 := fun z => ⟨(a (b z).1).1, (b z).2.trans (a (b z).1).2⟩
theorem mxE.of {h h' : gH} (a : h'.1 142 13 = h.1 142 13) (b : h'.1 142 9 = h.1 142 9) : mxE h h' := fun z => ⟨a.symm.trans z, b⟩
def mlE (h h' : gH) : Prop := h'.2 = h.2 ∧ (∀ o, o ≠ 142 → o ≠ 144 → o ≠ 146 → h'.1 o = h.1 o) ∧ (∀ k, (k < 4 ∨ k = 11 ∨ k = 12 ∨ 13 < k) → h'.1 142 k = h.1 142 k) ∧ mxE h h'
theorem mlE.rf (h : gH) : mlE h h := ⟨rfl, fun _ _ _ _ => rfl, fun _ _ => rfl, mxE.of rfl rfl⟩
theorem mlE.tr {h h1 h2 : gH} (a : mlE h h1) (b : mlE h1 h2) : mlE h h2 := ⟨b.1.trans a.1, fun o o1 o2 o3 => (b.2.1 o o1 o2 o3).trans (a.2.1 o o1 o2 o3), fun k hk => (b.2.2.1 k hk).trans (a.2.2.1 k hk), a.2.2.2.tr b.2.2.2⟩
def mlN (h h' : gH) : Prop := h'.2 = h.2 ∧ (∀ o, o ≠ 142 → o ≠ 144 → h'.1 o = h.1 o) ∧ (∀ k, (k < 4 ∨ k = 11 ∨ k = 12 ∨ 13 < k) → h'.1 142 k = h.1 142 k) ∧ mxE h h'
theorem mlN.rf (h : gH) : mlN h h := ⟨rfl, fun _ _ _ => rfl, fun _ _ => rfl, mxE.of rfl rfl⟩
theorem mlN.tr {h h1 h2 : gH} (a : mlN h h1) (b : mlN h1 h2) : mlN h h2 := ⟨b.1.trans a.1, fun o o1 o2 => (b.2.1 o o1 o2).trans (a.2.1 o o1 o2), fun k hk => (b.2.2.1 k hk).trans (a.2.2.1 k hk), a.2.2.2.tr b.2.2.2⟩
theorem mlN.e {h h' : gH} (a : mlN h h') : mlE h h' := ⟨a.1, fun o o1 o2 _ => a.2.1 o o1 o2, a.2.2⟩
theorem mpE.ml {h h' : gH} (a : mpE h h') : mlN h h' := ⟨a.1, fun o o1 o2 => a.2.1 o o1 o2, fun k hk => a.2.2 k (by omega), mxE.of (a.2.2 13 (by decide)) (a.2.2 9 (by decide))⟩
theorem mlE.put {h : gH} {k : Nat} {x : Int} : mlE h (gui h 146 k x) := ⟨rfl, fun o _ _ o3 => gui_n o3, fun i _ => by rw [gui_n (by decide)], mxE.of (by rw [gui_n (by decide)]) (by rw [gui_n (by decide)])⟩
theorem MM.fl {h : gH} {B : Nat → Nat} {e : Nat} {T : Nat → Nat} {x : Nat × Nat} (a : MM h B e T x) : h.1 142 13 = bI (decide (x.1 ≠ 0)) := by
  by_cases g : x.1 = 0
  · rw [(a.1 g).1, decide_eq_false (fun z => z g)]
    rfl
  · rw [(a.2 g).1, decide_eq_true g]
    rfl
theorem MM.at {h : gH} {B : Nat → Nat} {e p : Nat} {T : Nat → Nat} (a : ML h B e p T) : MM h B e T (0, p) := ⟨fun _ => a, fun z => absurd rfl z⟩
theorem MTk.put {h : gH} {B : Nat → Nat} {e p k : Nat} {x : Int} (a : MTk h B e p) : MTk (gui h 146 k x) B e p := by
  obtain ⟨⟨b1, b2, b3⟩, a1, a2, a3, a4, a5, a6⟩ := a
  exact ⟨⟨b1, by rw [gui_n (by decide)]; exact b2, fun j hj => by rw [gui_n (by decide)]; exact b3 j hj⟩, a1, by rw [gui_n (by decide)]; exact a2, by rw [gui_n (by decide)]; exact a3, by rw [gui_n (by decide)]; exact a4, fun q => by rw [gui_n (by decide), gui_n (by decide)]; exact a5 q, fun q => by rw [gui_n (by decide)]; exact a6 q⟩
theorem ML.put {h : gH} {B : Nat → Nat} {e p k v : Nat} {T : Nat → Nat} (a : ML h B e p T) : ML (gui h 146 k (v : Int)) B e p (uT T k v) := ⟨by rw [gui_n (by decide)]; exact a.1, a.2.1.put, fun j hj => by
  rw [gui_s]
  by_cases q : j = k
  · rw [q, up1_s, uT_s]
  · rw [up1_n q, uT_n q]
    exact a.2.2 j hj⟩
theorem MM.put {h : gH} {B : Nat → Nat} {e k v : Nat} {T : Nat → Nat} {x : Nat × Nat} (a : MM h B e T x) : MM (gui h 146 k (v : Int)) B e (uT T k v) x := ⟨fun g => (a.1 g).put, fun g => by
  obtain ⟨b1, b2, b3⟩ := a.2 g
  exact ⟨by rw [gui_n (by decide)]; exact b1, by rw [gui_n (by decide)]; exact b2, by rw [gui_n (by decide)]; exact b3⟩⟩
/-- what is still to come behind a state of the reader -/
def chR (x : Nat × Nat) (R K : Nat × Nat × (Nat → Nat)) : Prop := (x.1 = 0 → R = K) ∧ (x.1 ≠ 0 → R.1 = x.1 ∧ R.2.1 = x.2)
theorem chR_x {x : Nat × Nat} {R K K' : Nat × Nat × (Nat → Nat)} (g : ¬ x.1 = 0) (a : chR x R K) : chR x R K' := ⟨fun z => absurd z g, a.2⟩
theorem chR_0 {p q v : Nat} {r : Nat × Nat × Nat} {x : Nat × Nat} {R : Nat × Nat × (Nat → Nat)} {k : Nat → Nat → Nat × Nat × (Nat → Nat)} (g : x.1 = 0) (e : r = (0, v, q)) (a : chR x R (bd r k)) : chR (0, q) R (k v q) := ⟨fun _ => by rw [a.1 g, e]; rfl, fun z => absurd rfl z⟩
theorem chR_1 {n s v : Nat} {r : Nat × Nat × Nat} {x : Nat × Nat} {R K : Nat × Nat × (Nat → Nat)} {k : Nat → Nat → Nat × Nat × (Nat → Nat)} (g : x.1 = 0) (hn : n ≠ 0) (e : r = (n, s, v)) (a : chR x R (bd r k)) : chR (n, s) R K := ⟨fun z => absurd z hn, fun _ => by
  rw [a.1 g, e, bd_1 (show ¬ (n, s, v).1 = 0 from hn)]
  exact ⟨rfl, rfl⟩⟩
theorem ch_up {x x' : Nat × Nat} {r : Nat × Nat × Nat} {v : Nat} (c : ∀ R k, chR x R (bd r k) → chR x' R (k v x'.2)) (z : x'.1 = 0) : x.1 = 0 := by
  by_cases g1 : x.1 = 0
  · exact g1
  · exact absurd ((c (x.1, x.2, fun _ => 0) (fun _ _ => (0, 0, fun _ => 0)) ⟨fun q => absurd q g1, fun _ => ⟨rfl, rfl⟩⟩).1 z) (fun q => g1 (congrArg Prod.fst q))
def MG (h : gH) (B : Nat → Nat) (e : Nat) (R : Nat × Nat × (Nat → Nat)) : Prop := (R.1 = 0 → ML h B e R.2.1 R.2.2) ∧ (R.1 ≠ 0 → MF h R.1 R.2.1)
theorem MG_e {h : gH} {B : Nat → Nat} {e : Nat} {T : Nat → Nat} {x : Nat × Nat} {R : Nat × Nat × (Nat → Nat)} (a : MM h B e T x) (c : chR x R (0, x.2, T)) : MG h B e R := by
  by_cases g : x.1 = 0
  · rw [c.1 g]
    exact ⟨fun _ => a.1 g, fun z => absurd rfl z⟩
  · obtain ⟨c1, c2⟩ := c.2 g
    refine ⟨fun z => absurd (c1 ▸ z) g, fun _ => ?_⟩
    rw [c1, c2]
    exact a.2 g
theorem MG_x {h : gH} {B : Nat → Nat} {e : Nat} {T : Nat → Nat} {x : Nat × Nat} {R K : Nat × Nat × (Nat → Nat)} (g : ¬ x.1 = 0) (a : MM h B e T x) (c : chR x R K) : MG h B e R := by
  obtain ⟨c1, c2⟩ := c.2 g
  refine ⟨fun z => absurd (c1 ▸ z) g, fun _ => ?_⟩
  rw [c1, c2]
  exact a.2 g
theorem MG.mm {h : gH} {B : Nat → Nat} {e : Nat} {R : Nat × Nat × (Nat → Nat)} (a : MG h B e R) : MM h B e R.2.2 (R.1, R.2.1) := a
theorem m_wrong {h : gH} {B : Nat → Nat} {e p k s : Nat} {T : Nat → Nat} (hM : ML h B e p T) (hk : k ≠ 0) : gSp 1 yX11_wrong cX11_wrong 3 none [.ref 142, .int (zI (k : Int)), .int (zI (s : Int))] h (fun v h' => v = none ∧ mlN h h' ∧ MM h' B e T (k, s)) := by
  have h13 := hM.1
  refine gSp_of (by decide +kernel) (Nat.le_of_ble_eq_true rfl) ?_
  show gJ RX11 cX11_wrong 3 none _ 0 [some (.ref 142), some (.int (zI (k : Int))), some (.int (zI (s : Int)))] [] _ _
  refine gj_aload_n (pc' := 1) dX11_wrong_0 rfl rfl ?_
  refine gf_X11_91 (pc' := 4) dX11_wrong_1 rfl (by first | rfl | assumption) rfl ?_
  rw [h13]
  first | refine gj_ifB_eq (pc' := 7) (tgt := 8) dX11_wrong_4 (by decide) rfl (fun c4 => ?_) (fun c4 => ?_) | refine gj_if_eq (pc' := 7) (tgt := 8) dX11_wrong_4 (by decide) rfl (by omega) (fun c4 => ?_) (fun c4 => ?_)
  · refine gj_aload_n (pc' := 9) dX11_wrong_8 rfl rfl ?_
    refine gj_iconst (pc' := 10) dX11_wrong_9 rfl ?_
    refine gp_X11_91 (pc' := 13) dX11_wrong_10 rfl (by first | exact Or.inl rfl | exact Or.inr rfl | assumption) (by first | rfl | assumption) rfl ?_
    refine gj_aload_n (pc' := 14) dX11_wrong_13 rfl rfl ?_
    refine gj_iload_n (pc' := 15) dX11_wrong_14 rfl rfl ?_
    refine gp_X11_95 (pc' := 18) dX11_wrong_15 rfl (by first | rfl | assumption) rfl ?_
    refine gj_aload_n (pc' := 19) dX11_wrong_18 rfl rfl ?_
    refine gj_iload_n (pc' := 20) dX11_wrong_19 rfl rfl ?_
    refine gp_X11_13 (pc' := 23) dX11_wrong_20 rfl (by first | rfl | assumption) rfl ?_
    refine gj_vret rfl dX11_wrong_23 ?_
    refine ⟨rfl, ⟨rfl, fun o o1 _ => (gui_n o1).trans ((gui_n o1).trans (gui_n o1)), fun i hi => ?_, fun z => ?_⟩, fun z => absurd z hk, fun _ => ⟨?_, ?_, ?_⟩⟩
    · rw [gui_s, up1_n (by omega), gui_s, up1_n (by omega), gui_s, up1_n (by omega)]
    · rw [gui_s, up1_n (by decide), gui_s, up1_n (by decide), gui_s, up1_s] at z
      exact absurd z (by decide)
    · rw [gui_s, up1_n (by decide), gui_s, up1_n (by decide), gui_s, up1_s]
    · rw [gui_s, up1_n (by decide), gui_s, up1_s]
    · rw [gui_s, up1_s]
  · exfalso; omega
theorem m_wrongF {h : gH} {k s : Int} (hf : h.1 142 13 = 1) : gSp 1 yX11_wrong cX11_wrong 3 none [.ref 142, .int (zI k), .int (zI s)] h (fun v h' => v = none ∧ h' = h) := by
  refine gSp_of (by decide +kernel) (Nat.le_of_ble_eq_true rfl) ?_
  show gJ RX11 cX11_wrong 3 none _ 0 [some (.ref 142), some (.int (zI k)), some (.int (zI s))] [] _ _
  refine gj_aload_n (pc' := 1) dX11_wrong_0 rfl rfl ?_
  refine gf_X11_91 (pc' := 4) dX11_wrong_1 rfl (by first | rfl | assumption) rfl ?_
  rw [hf]
  first | refine gj_ifB_eq (pc' := 7) (tgt := 8) dX11_wrong_4 (by decide) rfl (fun c4 => ?_) (fun c4 => ?_) | refine gj_if_eq (pc' := 7) (tgt := 8) dX11_wrong_4 (by decide) rfl (by omega) (fun c4 => ?_) (fun c4 => ?_)
  · exfalso; omega
  · refine gj_vret rfl dX11_wrong_7 ?_
    exact ⟨rfl, rfl⟩
theorem m_nextL {h : gH} {B : Nat → Nat} {e p : Nat} {T : Nat → Nat} (hM : ML h B e p T) : gSp 3 yX11_next cX11_next 4 none [.ref 142] h (fun v h' => v = none ∧ mlN h h' ∧ ML h' B e (tEn B e p) T) := by
  obtain ⟨h13, hT, hF⟩ := hM
  refine gSp_mono (m_next hT.1 hT.2.2.2.1 (tEn_in hT.2.1).2.1) (fun v h' q => ?_)
  obtain ⟨q1, q2, q3⟩ := q
  exact ⟨q1, q2.ml, by rw [q2.2.2 13 (by decide)]; exact h13, q3, fun k hk => by rw [q2.2.1 146 (by decide) (by decide)]; exact hF k hk⟩
/-- the same so far -/
def eqN (f g : Nat → Int) : Nat → Bool
  | 0 => true
  | k + 1 => eqN f g k && decide (f k = g k)
theorem eqN_t {f g : Nat → Int} : ∀ n, eqN f g n = true ↔ ∀ i, i < n → f i = g i
  | 0 => ⟨fun _ i hi => absurd hi (Nat.not_lt_zero i), fun _ => rfl⟩
  | n + 1 => by
    show (eqN f g n && decide (f n = g n)) = true ↔ _
    rw [Bool.and_eq_true, eqN_t n, decide_eq_true_eq]
    refine ⟨fun q i hi => ?_, fun q => ⟨fun i hi => q i (by omega), q n (by omega)⟩⟩
    by_cases z : i = n
    · rw [z]; exact q.2
    · exact q.1 i (by omega)
theorem eqN_f1 {f g : Nat → Int} {k : Nat} (h : eqN f g k = false) : bI (eqN f g (k + 1)) = 0 := by
  show bI (eqN f g k && decide (f k = g k)) = 0
  rw [h]
  rfl
theorem eqN_f2 {f g : Nat → Int} {k : Nat} (h : ¬ f k = g k) : bI (eqN f g (k + 1)) = 0 := by
  show bI (eqN f g k && decide (f k = g k)) = 0
  rw [decide_eq_false h, Bool.and_false]
  rfl
theorem eqN_t1 {f g : Nat → Int} {k : Nat} (h : eqN f g k = true) (h2 : f k = g k) : bI (eqN f g (k + 1)) = 1 := by
  show bI (eqN f g k && decide (f k = g k)) = 1
  rw [h, decide_eq_true h2]
  rfl
theorem tkM_2 {s : Nat} (hs : s ≤ 4) : (tkM s = 2 ↔ s = 1) ∧ (tkM s = 3 ↔ s = 2) ∧ (tkM s = 59 ↔ s = 3) ∧ (tkM s = 0 ↔ s = 0) ∧ 0 ≤ tkM s ∧ tkM s ≤ 59 := by
  unfold tkM
  rcases (show s = 0 ∨ s = 1 ∨ s = 2 ∨ s = 3 ∨ s = 4 by omega) with rfl | rfl | rfl | rfl | rfl <;> decide
theorem wdT_eq {B : Nat → Nat} {e p i : Nat} (hp : p ≤ e) (h1 : tSr B e p = 1) (hi : i < 19) : (tWd B e p = wdT i) ↔ (tLn B e p = strL.getD i 0 ∧ ∀ j, j < tLn B e p → (B (tS B e p + j) : Int) = chN i j) := by
  obtain ⟨hl, hch⟩ := ch_lo i hi
  obtain ⟨a1, a2, a3⟩ := tk_let hp h1
  constructor
  · intro q
    have := wdN_inj (f := fun j => B (tS B e p + j)) (g := fun k => (chN i k).toNat) (m := tLn B e p) (n := strL.getD i 0) a3 (fun j hj => by have := hch j hj; omega) q
    refine ⟨this.1, fun j hj => ?_⟩
    have z1 := this.2 j hj
    have z2 := hch j (by omega)
    have z3 : B (tS B e p + j) = (chN i j).toNat := z1
    omega
  · intro q
    unfold tWd wdT
    rw [q.1]
    refine wdN_cg (fun j hj => ?_)
    have z1 := q.2 j (by omega)
    show B (tS B e p + j) = (chN i j).toNat
    omega
theorem m_isWord {h : gH} {B : Nat → Nat} {e i : Nat} {T : Nat → Nat} {x : Nat × Nat} (hM : MM h B e T x) (hi : i < 19) : gSp 5 yX11_isWord cX11_isWord 4 (some .boolean) [.ref 142, .ref (1000 + i)] h (gR (.int (zI (bI (decide (x.1 = 0) && tIs B e x.2 i)))) h) := by
  have hfl := hM.fl
  have hi20 : i < 20 := by omega
  obtain ⟨hl, hch⟩ := ch_lo i hi
  refine gSp_of (by decide +kernel) (Nat.le_of_ble_eq_true rfl) ?_
  show gJ RX11 cX11_isWord 4 (some .boolean) _ 0 [some (.ref 142), some (.ref (1000 + i)), none, none] [] _ _
  refine gj_aload_n (pc' := 1) dX11_isWord_0 rfl rfl ?_
  refine gf_X11_91 (pc' := 4) dX11_isWord_1 rfl (by first | rfl | assumption) rfl ?_
  rw [hfl]
  first | refine gj_ifB_ne (pc' := 7) (tgt := 26) dX11_isWord_4 (by decide) rfl (fun c4 => ?_) (fun c4 => ?_) | refine gj_if_ne (pc' := 7) (tgt := 26) dX11_isWord_4 (by decide) rfl (by omega) (fun c4 => ?_) (fun c4 => ?_)
  · first | have g4 := of_decide_eq_true c4 | have g4 := of_decide_eq_false c4 | skip
    refine gj_iconst (pc' := 27) dX11_isWord_26 rfl ?_
    refine gj_zret rfl (by first | rfl | exact gnZ _ | assumption) dX11_isWord_27 ?_
    refine gR_f ?_
    cases z : (decide (x.1 = 0) && tIs B e x.2 i) with
    | false => rfl
    | true =>
      exfalso
      simp only [tIs, Bool.and_eq_true, decide_eq_true_eq] at z
      obtain ⟨z1, z2, z3⟩ := z
      first
      | omega
      | (have y := htk.1.mpr z2; omega)
      | (have y := hwq.mp z3; omega)
  · first | have g4 := of_decide_eq_true c4 | have g4 := of_decide_eq_false c4 | skip
    have g0 : x.1 = 0 := Decidable.of_not_not g4
    have hL := hM.1 g0
    obtain ⟨-, hT, -⟩ := id hL
    have hsr := tSr_le B e x.2
    have htk := tkM_2 hsr
    have h6 := hT.2.2.2.2.1
    have h8 := hT.2.2.2.2.2.1
    refine gj_aload_n (pc' := 8) dX11_isWord_7 rfl rfl ?_
    refine gf_X11_81 (pc' := 11) dX11_isWord_8 rfl (by first | rfl | assumption) rfl ?_
    rw [h6]
    refine gj_iconst (pc' := 12) dX11_isWord_11 rfl ?_
    refine gj_icmp_ne (pc' := 15) (tgt := 26) dX11_isWord_12 (by decide) rfl (by omega) (fun c12 => ?_) (fun c12 => ?_)
    · refine gj_iconst (pc' := 27) dX11_isWord_26 rfl ?_
      refine gj_zret rfl (by first | rfl | exact gnZ _ | assumption) dX11_isWord_27 ?_
      refine gR_f ?_
      cases z : (decide (x.1 = 0) && tIs B e x.2 i) with
      | false => rfl
      | true =>
        exfalso
        simp only [tIs, Bool.and_eq_true, decide_eq_true_eq] at z
        obtain ⟨z1, z2, z3⟩ := z
        first
        | omega
        | (have y := htk.1.mpr z2; omega)
        | (have y := hwq.mp z3; omega)
    · have hs1 : tSr B e x.2 = 1 := htk.1.mp (by omega)
      obtain ⟨a1, a2, a3⟩ := tk_let hT.2.1 hs1
      have h88 := (h8 hs1).1
      have h8l := (h8 hs1).2
      have hwq := wdT_eq hT.2.1 hs1 hi
      refine gj_aload_n (pc' := 16) dX11_isWord_15 rfl rfl ?_
      refine gf_X11_75 (pc' := 19) dX11_isWord_16 rfl (by first | rfl | assumption) rfl ?_
      rw [h88]
      refine gj_aload_n (pc' := 20) dX11_isWord_19 rfl rfl ?_
      refine gr_X11_98 (pc' := 23) dX11_isWord_20 rfl (s_strlen hi20) rfl hi20 (by decide) rfl (Nat.le_of_ble_eq_true rfl) ?_
      refine gj_icmp_eq (pc' := 26) (tgt := 28) dX11_isWord_23 (by decide) rfl (by omega) (fun c23 => ?_) (fun c23 => ?_)
      · refine gj_iconst (pc' := 29) dX11_isWord_28 rfl ?_
        refine gj_istore_n (pc' := 30) dX11_isWord_29 rfl (by decide) ?_
        refine gj_iconst (pc' := 31) dX11_isWord_30 rfl ?_
        refine gj_istore_n (pc' := 32) dX11_isWord_31 rfl (by decide) ?_
        refine gJ_wk (gJ_for (L := fun k => [some (.ref 142), some (.ref (1000 + i)), some (.int (zI (bI (eqN (fun j => (B (tS B e x.2 + j) : Int)) (chN i) k)))), some (.int (zI (k : Int)))]) (tLn B e x.2) (fun k hb_k ih_k => ?_) (0) (Nat.zero_le _)) ?_
        · refine gj_iload_n (pc' := 33) dX11_isWord_32 rfl rfl ?_
          refine gj_aload_n (pc' := 34) dX11_isWord_33 rfl rfl ?_
          refine gf_X11_75 (pc' := 37) dX11_isWord_34 rfl (by first | rfl | assumption) rfl ?_
          rw [h88]
          refine gj_icmp_ge (pc' := 40) (tgt := 70) dX11_isWord_37 (by decide) rfl (by omega) (fun c37 => ?_) (fun c37 => ?_)
          · refine gj_iload_n (pc' := 71) dX11_isWord_70 rfl rfl ?_
            refine gj_zret rfl (by first | rfl | exact gnZ _ | assumption) dX11_isWord_71 ?_
            refine gR_i (congrArg bI ?_)
            rw [show k = tLn B e x.2 by omega, decide_eq_true g0, Bool.true_and]
            unfold tIs
            rw [decide_eq_true hs1, Bool.true_and]
            refine Bool.eq_iff_iff.mpr ?_
            rw [eqN_t, decide_eq_true_eq, hwq]
            exact ⟨fun q => ⟨by omega, q⟩, fun q => q.2⟩
          · refine gj_iload_n (pc' := 41) dX11_isWord_40 rfl rfl ?_
            first | refine gj_ifB_eq (pc' := 44) (tgt := 62) dX11_isWord_41 (by decide) rfl (fun c41 => ?_) (fun c41 => ?_) | refine gj_if_eq (pc' := 44) (tgt := 62) dX11_isWord_41 (by decide) rfl (by omega) (fun c41 => ?_) (fun c41 => ?_)
            · first | have g41 := of_decide_eq_true c41 | have g41 := of_decide_eq_false c41 | skip
              refine gj_iconst (pc' := 63) dX11_isWord_62 rfl ?_
              refine gj_istore_n (pc' := 64) dX11_isWord_63 rfl (by decide) ?_
              refine gj_iinc (pc' := 67) dX11_isWord_64 rfl rfl (by decide) ?_
              refine gj_goto (pc' := 32) dX11_isWord_67 (by decide) ?_
              refine gJ_wk (ih_k (by omega)) ?_
              repeat' (first | exact True.intro | with_reducible exact rfl | refine And.intro ?_ ?_ | refine vI ?_ | refine vL ?_)
              all_goals first
              | omega
              | exact eqN_f1 c41
              | exact eqN_f2 c55
              | exact eqN_t1 c41 c55
            · first | have g41 := of_decide_eq_true c41 | have g41 := of_decide_eq_false c41 | skip
              refine gj_aload_n (pc' := 45) dX11_isWord_44 rfl rfl ?_
              refine gf_X11_17 (pc' := 48) dX11_isWord_45 rfl (by first | rfl | assumption) rfl ?_
              refine gj_iload_n (pc' := 49) dX11_isWord_48 rfl rfl ?_
              refine gj_iald (pc' := 50) (j := k) (by first | rfl | assumption) (by omega) (by omega) (by decide) dX11_isWord_49 rfl ?_
              rw [h8l k (by omega)]
              refine gj_aload_n (pc' := 51) dX11_isWord_50 rfl rfl ?_
              refine gj_iload_n (pc' := 52) dX11_isWord_51 rfl rfl ?_
              have hck := hch k (by omega)
              have hak := a3 k (by omega)
              refine gr_X11_104 (pc' := 55) dX11_isWord_52 rfl (s_charAt hi20 (by omega)) rfl hi20 (by decide) rfl (Nat.le_of_ble_eq_true rfl) ?_
              refine gj_icmp_ne (pc' := 58) (tgt := 62) dX11_isWord_55 (by decide) rfl (by omega) (fun c55 => ?_) (fun c55 => ?_)
              · refine gj_iconst (pc' := 63) dX11_isWord_62 rfl ?_
                refine gj_istore_n (pc' := 64) dX11_isWord_63 rfl (by decide) ?_
                refine gj_iinc (pc' := 67) dX11_isWord_64 rfl rfl (by decide) ?_
                refine gj_goto (pc' := 32) dX11_isWord_67 (by decide) ?_
                refine gJ_wk (ih_k (by omega)) ?_
                repeat' (first | exact True.intro | with_reducible exact rfl | refine And.intro ?_ ?_ | refine vI ?_ | refine vL ?_)
                all_goals first
                | omega
                | exact eqN_f1 c41
                | exact eqN_f2 c55
                | exact eqN_t1 c41 c55
              · refine gj_iconst (pc' := 59) dX11_isWord_58 rfl ?_
                refine gj_goto (pc' := 63) dX11_isWord_59 (by decide) ?_
                refine gj_istore_n (pc' := 64) dX11_isWord_63 rfl (by decide) ?_
                refine gj_iinc (pc' := 67) dX11_isWord_64 rfl rfl (by decide) ?_
                refine gj_goto (pc' := 32) dX11_isWord_67 (by decide) ?_
                refine gJ_wk (ih_k (by omega)) ?_
                repeat' (first | exact True.intro | with_reducible exact rfl | refine And.intro ?_ ?_ | refine vI ?_ | refine vL ?_)
                all_goals first
                | omega
                | exact eqN_f1 c41
                | exact eqN_f2 c55
                | exact eqN_t1 c41 c55
        · repeat' (first | exact True.intro | with_reducible exact rfl | refine And.intro ?_ ?_ | refine vI ?_ | refine vL ?_)
          all_goals first | rfl | omega
      · refine gj_iconst (pc' := 27) dX11_isWord_26 rfl ?_
        refine gj_zret rfl (by first | rfl | exact gnZ _ | assumption) dX11_isWord_27 ?_
        refine gR_f ?_
        cases z : (decide (x.1 = 0) && tIs B e x.2 i) with
        | false => rfl
        | true =>
          exfalso
          simp only [tIs, Bool.and_eq_true, decide_eq_true_eq] at z
          obtain ⟨z1, z2, z3⟩ := z
          first
          | omega
          | (have y := htk.1.mpr z2; omega)
          | (have y := hwq.mp z3; omega)
