/-! PEACE: the summary of a set of birds; the class's sets -/
abbrev pzT : Type := Nat × Nat × (Nat → Int)
def mrg (x y : pzT) : pzT := if y.1 < x.1 then y else if y.1 = x.1 then (x.1, x.2.1 + y.2.1, x.2.2) else x
def pzA (T S : Nat → Nat) (b : Nat) (y : pzT) : pzT := (tLe T S b + y.1, y.2.1, fun i => if i = b then -2 else y.2.2 i)
def pzM (T S : Nat → Nat) (b c : Nat) (y : pzT) : pzT := (nD (tLe T S b) (tLe T S c) + y.1, y.2.1, fun i => if i = b then (c : Int) else if i = c then (b : Int) else y.2.2 i)
def pzE (T S : Nat → Nat) (b m c : Nat) : Bool := decide (b < c) && m.testBit c && sPair T S b c
def pzL (T S : Nat → Nat) (b m : Nat) (f : Nat → pzT) (n : Nat) : pzT := fN (fun c x => if pzE T S b m c = true then mrg x (pzM T S b c (f (nWo (nWo m (2 ^ b)) (2 ^ c)))) else x) (pzA T S b (f (nWo m (2 ^ b)))) n
def pz (T S : Nat → Nat) : Nat → Nat → pzT
  | 0, _ => (0, 1, fun _ => -2)
  | j + 1, m => if m.testBit (T 4 - (j + 1)) = true then pzL T S (T 4 - (j + 1)) m (pz T S j) (T 4) else pz T S j m
theorem fN_cg {α : Type} {f g : Nat → α → α} {a : α} : ∀ {n : Nat}, (∀ k x, k < n → f k x = g k x) → fN f a n = fN g a n
  | 0, _ => rfl
  | n + 1, h => by
    show f n (fN f a n) = g n (fN g a n)
    rw [fN_cg (n := n) (fun k x hk => h k x (by omega)), h n _ (by omega)]
theorem pzL_s (T S : Nat → Nat) (b m : Nat) (f : Nat → pzT) (n : Nat) : pzL T S b m f (n + 1) = if pzE T S b m n = true then mrg (pzL T S b m f n) (pzM T S b n (f (nWo (nWo m (2 ^ b)) (2 ^ n)))) else pzL T S b m f n := rfl
theorem pzE_t {T S : Nat → Nat} {b m c : Nat} (z : pzE T S b m c = true) : b < c ∧ m.testBit c = true ∧ sPair T S b c = true := by
  unfold pzE at z
  simp only [Bool.and_eq_true, decide_eq_true_eq] at z
  exact ⟨z.1.1, z.1.2, z.2⟩
theorem pzL_cg {T S : Nat → Nat} {b m m' : Nat} {f f' : Nat → pzT} {n : Nat} (hb : ∀ c, b < c → c < n → m.testBit c = m'.testBit c) (h0 : f (nWo m (2 ^ b)) = f' (nWo m' (2 ^ b))) (h1 : ∀ c, b < c → c < n → m.testBit c = true → f (nWo (nWo m (2 ^ b)) (2 ^ c)) = f' (nWo (nWo m' (2 ^ b)) (2 ^ c))) : pzL T S b m f n = pzL T S b m' f' n := by
  unfold pzL
  rw [h0]
  refine fN_cg (fun c x hc => ?_)
  show (if pzE T S b m c = true then _ else x) = (if pzE T S b m' c = true then _ else x)
  have e : pzE T S b m c = pzE T S b m' c := by
    unfold pzE
    by_cases q : b < c
    · rw [hb c q hc]
    · simp [q]
  rw [← e]
  by_cases z : pzE T S b m c = true
  · rw [if_pos z, if_pos z]
    have z2 := pzE_t z
    rw [h1 c z2.1 hc z2.2.1]
  · rw [if_neg z, if_neg z]
theorem pz_ext {T S : Nat → Nat} : ∀ (j m m' : Nat), j ≤ T 4 → (∀ i, T 4 - j ≤ i → i < T 4 → m.testBit i = m'.testBit i) → pz T S j m = pz T S j m'
  | 0, _, _, _, _ => rfl
  | j + 1, m, m', hj, h => by
    have e1 : m.testBit (T 4 - (j + 1)) = m'.testBit (T 4 - (j + 1)) := h _ (Nat.le_refl _) (by omega)
    have ih := fun m m' => pz_ext (T := T) (S := S) j m m' (by omega)
    show (if m.testBit (T 4 - (j + 1)) = true then pzL T S (T 4 - (j + 1)) m (pz T S j) (T 4) else pz T S j m) = (if m'.testBit (T 4 - (j + 1)) = true then pzL T S (T 4 - (j + 1)) m' (pz T S j) (T 4) else pz T S j m')
    rw [← e1]
    by_cases q : m.testBit (T 4 - (j + 1)) = true
    · rw [if_pos q, if_pos q]
      refine pzL_cg (fun c c1 c2 => h c (by omega) c2) (ih _ _ (fun i i1 i2 => ?_)) (fun c c1 c2 _ => ih _ _ (fun i i1 i2 => ?_))
      · rw [nWo_bit, nWo_bit, h i (by omega) i2]
      · rw [nWo_bit, nWo_bit, nWo_bit, nWo_bit, h i (by omega) i2]
    · rw [if_neg q, if_neg q]
      exact ih _ _ (fun i i1 i2 => h i (by omega) i2)
theorem pz_skip {T S : Nat → Nat} {m j : Nat} : ∀ (k : Nat), j + k ≤ T 4 → (∀ i, T 4 - (j + k) ≤ i → i < T 4 - j → m.testBit i = false) → pz T S (j + k) m = pz T S j m
  | 0, _, _ => rfl
  | k + 1, hk, h => by
    show (if m.testBit (T 4 - (j + k + 1)) = true then pzL T S (T 4 - (j + k + 1)) m (pz T S (j + k)) (T 4) else pz T S (j + k) m) = _
    rw [if_neg (by rw [h _ (by omega) (by omega)]; decide)]
    exact pz_skip k (by omega) (fun i i1 i2 => h i (by omega) i2)
theorem pz_0 (T S : Nat → Nat) : ∀ j, pz T S j 0 = (0, 1, fun _ => -2)
  | 0 => rfl
  | j + 1 => by
    show (if (0 : Nat).testBit (T 4 - (j + 1)) = true then pzL T S (T 4 - (j + 1)) 0 (pz T S j) (T 4) else pz T S j 0) = _
    rw [Nat.zero_testBit, if_neg Bool.false_ne_true]
    exact pz_0 T S j
theorem lowB_lt {T : Nat → Nat} {m : Nat} (h4 : T 4 ≤ 7) (hm : m < 2 ^ T 4) (h0 : m ≠ 0) : m < 128 ∧ lowB m < T 4 ∧ m.testBit (lowB m) = true ∧ ∀ k, k < lowB m → m.testBit k = false := by
  have hm7 : m < 128 := Nat.lt_of_lt_of_le hm (Nat.pow_le_pow_right (n := 2) (by omega) h4)
  obtain ⟨-, k2, k3, k4⟩ := lowB_key m hm7 h0
  refine ⟨hm7, ?_, k3, k4⟩
  rcases Nat.lt_or_ge (lowB m) (T 4) with q | q
  · exact q
  · rw [testBit_lt hm q] at k3; cases k3
theorem pz_low {T S : Nat → Nat} {m : Nat} (h4 : T 4 ≤ 7) (hm : m < 2 ^ T 4) (h0 : m ≠ 0) : pz T S (T 4) m = pzL T S (lowB m) m (pz T S (T 4)) (T 4) := by
  obtain ⟨hm7, hb, k3, k4⟩ := lowB_lt h4 hm h0
  obtain ⟨j, hj⟩ : ∃ j, T 4 = lowB m + (j + 1) := ⟨T 4 - lowB m - 1, by omega⟩
  have e1 : pz T S (T 4) m = pz T S (j + 1) m := by
    have := pz_skip (T := T) (S := S) (m := m) (j := j + 1) (lowB m) (by omega) (fun i i1 i2 => k4 i (by omega))
    rw [show j + 1 + lowB m = T 4 by omega] at this
    exact this
  rw [e1]
  show (if m.testBit (T 4 - (j + 1)) = true then pzL T S (T 4 - (j + 1)) m (pz T S j) (T 4) else pz T S j m) = _
  rw [show T 4 - (j + 1) = lowB m by omega, if_pos k3]
  have sk : ∀ y : Nat, (∀ i, i ≤ lowB m → y.testBit i = false) → pz T S j y = pz T S (T 4) y := fun y hy => by
    have := pz_skip (T := T) (S := S) (m := y) (j := j) (lowB m + 1) (by omega) (fun i i1 i2 => hy i (by omega))
    rw [show j + (lowB m + 1) = T 4 by omega] at this
    exact this.symm
  refine pzL_cg (fun _ _ _ => rfl) (sk _ (fun i hi => ?_)) (fun c c1 c2 _ => sk _ (fun i hi => ?_))
  · rw [nWo_bit, Nat.testBit_two_pow]
    by_cases q : lowB m = i
    · simp [q]
    · rw [k4 i (by omega)]; rfl
  · rw [nWo_bit, nWo_bit, Nat.testBit_two_pow]
    by_cases q : lowB m = i
    · simp [q]
    · rw [k4 i (by omega)]; rfl
theorem mrg_le {x y : pzT} : (mrg x y).1 ≤ x.1 := by
  unfold mrg
  split
  · omega
  · split
    · exact Nat.le_refl _
    · exact Nat.le_refl _
theorem mrg_le2 {x y : pzT} : (mrg x y).1 ≤ y.1 := by
  unfold mrg
  split
  · exact Nat.le_refl _
  · split
    · show x.1 ≤ y.1; omega
    · omega
theorem pzL_le {T S : Nat → Nat} {b m : Nat} {f : Nat → pzT} : ∀ n, (pzL T S b m f n).1 ≤ tLe T S b + (f (nWo m (2 ^ b))).1
  | 0 => Nat.le_refl _
  | n + 1 => by
    have ih := pzL_le (T := T) (S := S) (b := b) (m := m) (f := f) n
    rw [pzL_s]
    split
    · exact Nat.le_trans mrg_le ih
    · exact ih
theorem pz_le {T S : Nat → Nat} (hT : TV T) : ∀ j m, j ≤ T 4 → (pz T S j m).1 ≤ 120 * j
  | 0, _, _ => Nat.le_refl _
  | j + 1, m, hj => by
    have ih := fun m => pz_le (S := S) hT j m (by omega)
    show (if m.testBit (T 4 - (j + 1)) = true then pzL T S (T 4 - (j + 1)) m (pz T S j) (T 4) else pz T S j m).1 ≤ _
    have h1 := ih m
    split
    · have h2 := pzL_le (T := T) (S := S) (b := T 4 - (j + 1)) (m := m) (f := pz T S j) (T 4)
      have h3 := tLe_le (S := S) hT (b := T 4 - (j + 1)) (by omega)
      have h4 := ih (nWo m (2 ^ (T 4 - (j + 1))))
      omega
    · omega
theorem pz_le4 {T S : Nat → Nat} (hT : TV T) (m : Nat) : (pz T S (T 4) m).1 ≤ 840 := by
  have h4 : T 4 ≤ 7 := hT.2.2.2.2.1
  have := pz_le (S := S) hT (T 4) m (Nat.le_refl _)
  omega
theorem pzL_lo {T S : Nat → Nat} {b m : Nat} {f : Nat → pzT} : ∀ n, n ≤ b + 1 → pzL T S b m f n = pzA T S b (f (nWo m (2 ^ b)))
  | 0, _ => rfl
  | n + 1, h => by
    rw [pzL_s, if_neg]
    · exact pzL_lo n (by omega)
    · intro z
      have := (pzE_t z).1
      omega
theorem pzL_min {T S : Nat → Nat} {b m : Nat} {f : Nat → pzT} {c : Nat} (hc : pzE T S b m c = true) : ∀ n, c < n → (pzL T S b m f n).1 ≤ (pzM T S b c (f (nWo (nWo m (2 ^ b)) (2 ^ c)))).1
  | 0, h => absurd h (by omega)
  | n + 1, h => by
    rw [pzL_s]
    by_cases q : c = n
    · subst q
      rw [if_pos hc]
      exact mrg_le2
    · have ih := pzL_min (f := f) hc n (by omega)
      split
      · exact Nat.le_trans mrg_le ih
      · exact ih
theorem pz_pick {T S : Nat → Nat} {b m : Nat} {f : Nat → pzT} : ∀ n, ((pzL T S b m f n).1 = (pzA T S b (f (nWo m (2 ^ b)))).1 ∧ (pzL T S b m f n).2.2 = (pzA T S b (f (nWo m (2 ^ b)))).2.2) ∨ ((pzL T S b m f n).1 < (pzA T S b (f (nWo m (2 ^ b)))).1 ∧ ∃ c, c < n ∧ pzE T S b m c = true ∧ (pzM T S b c (f (nWo (nWo m (2 ^ b)) (2 ^ c)))).1 = (pzL T S b m f n).1 ∧ (pzL T S b m f n).2.2 = (pzM T S b c (f (nWo (nWo m (2 ^ b)) (2 ^ c)))).2.2 ∧ ∀ c', c' < c → pzE T S b m c' = true → (pzL T S b m f n).1 < (pzM T S b c' (f (nWo (nWo m (2 ^ b)) (2 ^ c')))).1)
  | 0 => Or.inl ⟨rfl, rfl⟩
  | n + 1 => by
    have ih := pz_pick (T := T) (S := S) (b := b) (m := m) (f := f) n
    have hmin := fun c hc => pzL_min (T := T) (S := S) (b := b) (m := m) (f := f) (c := c) hc n
    have hle := pzL_le (T := T) (S := S) (b := b) (m := m) (f := f) n
    have hA : (pzA T S b (f (nWo m (2 ^ b)))).1 = tLe T S b + (f (nWo m (2 ^ b))).1 := rfl
    rw [pzL_s]
    generalize pzL T S b m f n = x at ih hmin hle ⊢
    by_cases z : pzE T S b m n = true
    · rw [if_pos z]
      by_cases q : (pzM T S b n (f (nWo (nWo m (2 ^ b)) (2 ^ n)))).1 < x.1
      · have e : mrg x (pzM T S b n (f (nWo (nWo m (2 ^ b)) (2 ^ n)))) = pzM T S b n (f (nWo (nWo m (2 ^ b)) (2 ^ n))) := if_pos q
        rw [e]
        refine Or.inr ⟨by omega, n, by omega, z, rfl, rfl, fun c' hc' zc => ?_⟩
        have := hmin c' zc hc'
        omega
      · have e : (mrg x (pzM T S b n (f (nWo (nWo m (2 ^ b)) (2 ^ n))))).1 = x.1 ∧ (mrg x (pzM T S b n (f (nWo (nWo m (2 ^ b)) (2 ^ n))))).2.2 = x.2.2 := by
          unfold mrg
          rw [if_neg q]
          split
          · exact ⟨rfl, rfl⟩
          · exact ⟨rfl, rfl⟩
        rw [e.1, e.2]
        rcases ih with ih | ⟨i1, c, i2, i3, i4, i5, i6⟩
        · exact Or.inl ih
        · exact Or.inr ⟨i1, c, by omega, i3, i4, i5, i6⟩
    · rw [if_neg z]
      rcases ih with ih | ⟨i1, c, i2, i3, i4, i5, i6⟩
      · exact Or.inl ih
      · exact Or.inr ⟨i1, c, by omega, i3, i4, i5, i6⟩
theorem nWo_z {y g : Nat} (h : ∀ i, y.testBit i = true → g.testBit i = true) : nWo y g = 0 := by
  apply Nat.eq_of_testBit_eq
  intro i
  rw [nWo_bit, Nat.zero_testBit]
  cases hy : y.testBit i with
  | false => rfl
  | true => rw [h i hy]; rfl
theorem nWo_zi {y g : Nat} (h : nWo y g = 0) {i : Nat} (hi : y.testBit i = true) : g.testBit i = true := by
  have := nWo_bit y g i
  rw [h, hi, Nat.zero_testBit] at this
  cases hg : g.testBit i with
  | true => rfl
  | false => rw [hg] at this; simp at this
theorem nWo_tr {y g k : Nat} (h : nWo y g = 0) (h2 : nWo g k = 0) : nWo y k = 0 := nWo_z (fun _ hi => nWo_zi h2 (nWo_zi h hi))
theorem nWo_sub (m x : Nat) : nWo (nWo m x) m = 0 := nWo_z (fun i hi => by
  rw [nWo_bit] at hi
  simp only [Bool.and_eq_true] at hi
  exact hi.1)
theorem low_key2 : ∀ m, m < 128 → m ≠ 0 → m &&& (m - 1) = nWo m (2 ^ lowB m) ∧ nWo m (2 ^ lowB m) < m := by decide +kernel
/-- the sets below one are weighed -/
def pzC (h : gH) (T S : Nat → Nat) (P : Nat → Prop) : Prop := ∀ y, P y → h.1 136 y = ((pz T S (T 4) y).1 : Int) ∧ h.1 137 y = ((pz T S (T 4) y).2.1 : Int)
theorem s_weigh {h : gH} {t m : Nat} {T S : Nat → Nat} (hI : CI h t T S) (hm : m < 2 ^ T 4) (h0 : m ≠ 0) (hC : pzC h T S (fun y => y < m ∧ nWo y m = 0)) : gSp 3 yX0_weigh cX0_weigh 9 none [.ref 135, .ref t, .ref 52, .int (zI (m : Int))] h (fun v h' => v = none ∧ h'.2 = h.2 ∧ (∀ o, o ≠ 136 → o ≠ 137 → h'.1 o = h.1 o) ∧ (∀ k, k ≠ m → h'.1 136 k = h.1 136 k ∧ h'.1 137 k = h.1 137 k) ∧ h'.1 136 m = ((pz T S (T 4) m).1 : Int) ∧ h'.1 137 m = ((pz T S (T 4) m).2.1 : Int)) := by
  obtain ⟨ht, hP, hT, hS, hA, hB, hN⟩ := id hI
  obtain ⟨s0, -⟩ := shT ht
  have htt : t = 6 ∨ t = 29 := ht
  have h4 : T 4 ≤ 7 := hT.2.2.2.2.1
  obtain ⟨hm7, hb, hb1, hb2⟩ := lowB_lt h4 hm h0
  obtain ⟨k1, k2⟩ := low_key2 m hm7 h0
  have hlow := pz_low (S := S) h4 hm h0
  have hrb : ∀ i, (nWo m (2 ^ lowB m)).testBit i = (m.testBit i && !decide (lowB m = i)) := fun i => by rw [nWo_bit, Nat.testBit_two_pow]
  have hrs := nWo_sub m (2 ^ lowB m)
  have hcr := hC _ ⟨k2, hrs⟩
  have hpe := pz_le4 (S := S) hT
  have hps := pzL_s T S (lowB m) m (pz T S (T 4))
  have hplo := pzL_lo (T := T) (S := S) (b := lowB m) (m := m) (f := pz T S (T 4)) (lowB m + 1) (Nat.le_refl _)
  have hple := pzL_le (T := T) (S := S) (b := lowB m) (m := m) (f := pz T S (T 4))
  have hlb := tLe_le (S := S) hT hb
  refine gSp_of (by decide +kernel) (Nat.le_of_ble_eq_true rfl) ?_
  show gJ RX0 cX0_weigh 9 none _ 0 [some (.ref 135), some (.ref t), some (.ref 52), some (.int (zI (m : Int))), none, none, none, none, none] [] _ _
  refine gj_iload_n (pc' := 1) dX0_weigh_0 rfl rfl ?_
  refine gr_X0_42 (pc' := 4) dX0_weigh_1 rfl (s_firstOf hm7 h0) rfl (by decide) rfl (Nat.le_of_ble_eq_true rfl) ?_
  refine gj_istore (pc' := 6) dX0_weigh_4 rfl (by decide) ?_
  refine gj_iload_n (pc' := 7) dX0_weigh_6 rfl rfl ?_
  refine gj_iload_n (pc' := 8) dX0_weigh_7 rfl rfl ?_
  refine gj_iconst (pc' := 9) dX0_weigh_8 rfl ?_
  refine gj_isub (pc' := 10) dX0_weigh_9 rfl ?_
  rw [show (m : Int) - 1 = ((m - 1 : Nat) : Int) by omega]
  refine gj_iand (pc' := 11) dX0_weigh_10 rfl ?_
  rw [bt_and (by omega) (by omega), k1]
  generalize nWo m (2 ^ lowB m) = r at k1 k2 hrb hrs hcr hps hplo hple
  generalize lowB m = b at hb hb1 hb2 hrb hps hplo hple hlow hlb
  have hpr := hpe r
  refine gj_istore (pc' := 13) dX0_weigh_11 rfl (by decide) ?_
  refine gj_aload_n (pc' := 14) dX0_weigh_13 rfl rfl ?_
  refine gf_X0_13 (pc' := 17) dX0_weigh_14 rfl (by first | rfl | assumption) rfl ?_
  refine gj_iload_n (pc' := 18) dX0_weigh_17 rfl rfl ?_
  refine gj_aload_n (pc' := 19) dX0_weigh_18 rfl rfl ?_
  refine gj_aload_n (pc' := 20) dX0_weigh_19 rfl rfl ?_
  refine gj_iload (pc' := 22) dX0_weigh_20 rfl rfl ?_
  refine gr_X0_46 (pc' := 25) dX0_weigh_22 rfl (s_lacking hI hb) rfl (by first | rfl | assumption) (by decide) rfl (Nat.le_of_ble_eq_true rfl) ?_
  refine gj_aload_n (pc' := 26) dX0_weigh_25 rfl rfl ?_
  refine gf_X0_13 (pc' := 29) dX0_weigh_26 rfl (by first | rfl | assumption) rfl ?_
  refine gj_iload (pc' := 31) dX0_weigh_29 rfl rfl ?_
  refine gj_iald (pc' := 32) (j := r) (by first | rfl | assumption) (by omega) (by omega) (by decide) dX0_weigh_31 rfl ?_
  rw [hcr.1]
  refine gj_iadd (pc' := 33) dX0_weigh_32 rfl ?_
  refine gj_iast (pc' := 34) (j := m) (by first | rfl | assumption) (by omega) (by omega) (by decide) dX0_weigh_33 rfl ?_
  refine gj_aload_n (pc' := 35) dX0_weigh_34 rfl rfl ?_
  refine gf_X0_17 (pc' := 38) dX0_weigh_35 rfl (by first | rfl | assumption) rfl ?_
  refine gj_iload_n (pc' := 39) dX0_weigh_38 rfl rfl ?_
  refine gj_aload_n (pc' := 40) dX0_weigh_39 rfl rfl ?_
  refine gf_X0_17 (pc' := 43) dX0_weigh_40 rfl (by first | rfl | assumption) rfl ?_
  refine gj_iload (pc' := 45) dX0_weigh_43 rfl rfl ?_
  refine gj_iald (pc' := 46) (j := r) (by first | rfl | assumption) (by omega) (by omega) (by decide) dX0_weigh_45 rfl ?_
  rw [gui_n (by decide), hcr.2]
  refine gj_iast (pc' := 47) (j := m) (by first | rfl | assumption) (by omega) (by omega) (by decide) dX0_weigh_46 rfl ?_
  refine gj_iload (pc' := 49) dX0_weigh_47 rfl rfl ?_
  refine gj_iconst (pc' := 50) dX0_weigh_49 rfl ?_
  refine gj_iadd (pc' := 51) dX0_weigh_50 rfl ?_
  refine gj_istore (pc' := 53) dX0_weigh_51 rfl (by decide) ?_
  refine gJ_wk (gJ_fH0 (L := fun c  => [some (.ref 135), some (.ref t), some (.ref 52), some (.int (zI (m : Int))), some (.int (zI (b : Int))), some (.int (zI (r : Int))), some (.int (zI (c : Int))), none, none]) (I := fun c  hp => b < c ∧ hp.2 = h.2 ∧ (∀ o, o ≠ 136 → o ≠ 137 → hp.1 o = h.1 o) ∧ (∀ k, k ≠ m → hp.1 136 k = h.1 136 k ∧ hp.1 137 k = h.1 137 k) ∧ hp.1 136 m = ((pzL T S b m (pz T S (T 4)) c).1 : Int) ∧ hp.1 137 m = ((pzL T S b m (pz T S (T 4)) c).2.1 : Int)) (T 4) (fun c  hp hb_c iv_c ih_c => ?step_1) (b + 1) (by omega)  _ ?iv0_1) ?ll0_1
  case ll0_1 =>
    repeat' (first | exact True.intro | with_reducible exact rfl | refine And.intro ?_ ?_ | refine vI ?_ | refine vL ?_)
    all_goals first | rfl | omega
  case iv0_1 =>
    refine ⟨by omega, rfl, fun o o1 o2 => (gui_n o2).trans (gui_n o1), fun k hk => ⟨?_, ?_⟩, ?_, ?_⟩
    · rw [gui_n (by decide), gui_s, up1_n hk]
    · rw [gui_s, up1_n hk, gui_n (by decide)]
    · rw [gui_n (by decide), gui_s, up1_s, hplo]
      show _ = ((tLe T S b + (pz T S (T 4) r).1 : Nat) : Int)
      omega
    · rw [gui_s, up1_s, hplo]
      rfl
  obtain ⟨i1, i2, i3, i4, i5, i6⟩ := iv_c
  have es := hps c
  have hE : pzE T S b m c = (r.testBit c && sPair T S b c) := by
    unfold pzE
    rw [hrb c, decide_eq_true i1, decide_eq_false (show ¬ b = c by omega)]
    simp
  have hI2 : CI hp t T S := hI.to2 i2 (fun o o1 o2 => i3 o (by omega) (by omega)) (fun o o1 o2 => i3 o (by omega) (by omega))
  have hw : hp.1 t 4 = (T 4 : Int) := hI2.2.2.2.2.1.1 4 (by omega)
  have hend : T 4 = c → pz T S (T 4) m = pzL T S b m (pz T S (T 4)) c := fun q => hlow.trans (congrArg (pzL T S b m (pz T S (T 4))) q)
  have hxl := hple c
  generalize pzL T S b m (pz T S (T 4)) c = x at es i5 i6 hend hxl
  have hoe : ∀ z, (nWo r z) ≤ r ∧ nWo (nWo r z) m = 0 := fun z => ⟨nWo_le r z, nWo_tr (nWo_sub r z) hrs⟩
  have ho := hoe (2 ^ c)
  have hco := hC (nWo r (2 ^ c)) ⟨by omega, ho.2⟩
  have hpo := hpe (nWo r (2 ^ c))
  have hyy : ∀ y, pzM T S b c y = (nD (tLe T S b) (tLe T S c) + y.1, y.2.1, fun i => if i = b then (c : Int) else if i = c then (b : Int) else y.2.2 i) := fun _ => rfl
  generalize pz T S (T 4) (nWo r (2 ^ c)) = y at es hco hpo
  have hyc := hyy y
  generalize pzM T S b c y = y2 at es hyc
  obtain ⟨x1, x2, x3⟩ := x
  obtain ⟨y1, y2', y3⟩ := y
  simp only at i5 i6 hxl hpo hco
  simp only at hyc
  have hc128 : 2 ^ c ≤ 128 := Nat.pow_le_pow_right (n := 2) (by omega) (show c ≤ 7 by omega)
  refine gj_iload (pc' := 55) dX0_weigh_53 rfl rfl ?_
  refine gj_aload_n (pc' := 56) dX0_weigh_55 rfl rfl ?_
  refine gf_X0_20 (pc' := 59) dX0_weigh_56 rfl (by first | rfl | assumption) rfl ?_
  rw [hw]
  refine gj_icmp_ge (pc' := 62) (tgt := 185) dX0_weigh_59 (by decide) rfl (by omega) (fun c59 => ?_) (fun c59 => ?_)
  · refine gj_vret rfl dX0_weigh_185 ?_
    rw [hend (by omega)]
    exact ⟨rfl, i2, i3, i4, i5, i6⟩
  · refine gj_iload (pc' := 64) dX0_weigh_62 rfl rfl ?_
    refine gj_iload (pc' := 66) dX0_weigh_64 rfl rfl ?_
    refine gj_ishr (pc' := 67) dX0_weigh_66 rfl ?_
    refine gj_iconst (pc' := 68) dX0_weigh_67 rfl ?_
    refine gj_iand (pc' := 69) dX0_weigh_68 rfl ?_
    rw [bt_bit (by omega) (by omega)]
    first | refine gj_ifB_eq (pc' := 72) (tgt := 179) dX0_weigh_69 (by decide) rfl (fun c69 => ?_) (fun c69 => ?_) | refine gj_if_eq (pc' := 72) (tgt := 179) dX0_weigh_69 (by decide) rfl (by omega) (fun c69 => ?_) (fun c69 => ?_)
    · refine gj_iinc (pc' := 182) dX0_weigh_179 rfl rfl (by decide) ?_
      refine gj_goto (pc' := 53) dX0_weigh_182 (by decide) ?_
      refine gJ_wk (ih_c  _ (by omega) ?iv_2) ?ll_2
      case ll_2 =>
        repeat' (first | exact True.intro | with_reducible exact rfl | refine And.intro ?_ ?_ | refine vI ?_ | refine vL ?_)
        all_goals omega
      first
      | (rw [es, hE, c69, Bool.false_and, if_neg Bool.false_ne_true]; exact ⟨by omega, i2, i3, i4, i5, i6⟩)
      | (rw [es, hE, c69, c81, Bool.and_false, if_neg Bool.false_ne_true]; exact ⟨by omega, i2, i3, i4, i5, i6⟩)
      | (rw [es, hE, c69, c81, Bool.and_true, if_pos rfl, hyc]
         unfold mrg
         first
         | (rw [if_pos (show nD (tLe T S b) (tLe T S c) + y1 < x1 by omega)]
            refine ⟨by omega, i2, fun o o1 o2 => (gui_n o2).trans ((gui_n o1).trans (i3 o o1 o2)), fun k hk => ⟨?_, ?_⟩, ?_, ?_⟩
            · rw [gui_n (by decide), gui_s, up1_n hk]; exact (i4 k hk).1
            · rw [gui_s, up1_n hk, gui_n (by decide)]; exact (i4 k hk).2
            · rw [gui_n (by decide), gui_s, up1_s]; show _ = ((nD (tLe T S b) (tLe T S c) + y1 : Nat) : Int); omega
            · rw [gui_s, up1_s])
         | (rw [if_neg (show ¬ nD (tLe T S b) (tLe T S c) + y1 < x1 by omega), if_pos (show nD (tLe T S b) (tLe T S c) + y1 = x1 by omega)]
            refine ⟨by omega, i2, fun o o1 o2 => (gui_n o2).trans (i3 o o1 o2), fun k hk => ⟨?_, ?_⟩, ?_, ?_⟩
            · rw [gui_n (by decide)]; exact (i4 k hk).1
            · rw [gui_s, up1_n hk]; exact (i4 k hk).2
            · rw [gui_n (by decide)]; exact i5
            · rw [gui_s, up1_s]; show _ = ((x2 + y2' : Nat) : Int); omega)
         | (rw [if_neg (show ¬ nD (tLe T S b) (tLe T S c) + y1 < x1 by omega), if_neg (show ¬ nD (tLe T S b) (tLe T S c) + y1 = x1 by omega)]
            exact ⟨by omega, i2, i3, i4, i5, i6⟩))
    · refine gj_aload_n (pc' := 73) dX0_weigh_72 rfl rfl ?_
      refine gj_aload_n (pc' := 74) dX0_weigh_73 rfl rfl ?_
      refine gj_iload (pc' := 76) dX0_weigh_74 rfl rfl ?_
      refine gj_iload (pc' := 78) dX0_weigh_76 rfl rfl ?_
      refine gr_X0_24 (pc' := 81) dX0_weigh_78 rfl (s_pair hI2 hb (by omega)) rfl (by first | rfl | assumption) (by decide) rfl (Nat.le_of_ble_eq_true rfl) ?_
      first | refine gj_ifB_ne (pc' := 84) (tgt := 87) dX0_weigh_81 (by decide) rfl (fun c81 => ?_) (fun c81 => ?_) | refine gj_if_ne (pc' := 84) (tgt := 87) dX0_weigh_81 (by decide) rfl (by omega) (fun c81 => ?_) (fun c81 => ?_)
      · refine gj_iload (pc' := 89) dX0_weigh_87 rfl rfl ?_
        refine gj_iconst (pc' := 90) dX0_weigh_89 rfl ?_
        refine gj_iload (pc' := 92) dX0_weigh_90 rfl rfl ?_
        refine gj_ishl (pc' := 93) dX0_weigh_92 rfl ?_
        rw [bt_shl1 (by omega)]
        refine gj_iconst (pc' := 94) dX0_weigh_93 rfl ?_
        refine gj_ixor (pc' := 95) dX0_weigh_94 rfl ?_
        refine gj_iand (pc' := 96) dX0_weigh_95 rfl ?_
        rw [bt_wo (by omega) (by omega)]
        have hlc := tLe_le (S := S) hT (b := c) (by omega)
        have hnd := nD_le hlb hlc
        refine gj_istore (pc' := 98) dX0_weigh_96 rfl (by decide) ?_
        refine gj_aload_n (pc' := 99) dX0_weigh_98 rfl rfl ?_
        refine gj_aload_n (pc' := 100) dX0_weigh_99 rfl rfl ?_
        refine gj_iload (pc' := 102) dX0_weigh_100 rfl rfl ?_
        refine gj_iload (pc' := 104) dX0_weigh_102 rfl rfl ?_
        refine gr_X0_50 (pc' := 107) dX0_weigh_104 rfl (s_pairCost hI2 hb (by omega)) rfl (by first | rfl | assumption) (by decide) rfl (Nat.le_of_ble_eq_true rfl) ?_
        refine gj_aload_n (pc' := 108) dX0_weigh_107 rfl rfl ?_
        refine gf_X0_13 (pc' := 111) dX0_weigh_108 rfl (by first | rfl | assumption) rfl ?_
        refine gj_iload (pc' := 113) dX0_weigh_111 rfl rfl ?_
        refine gj_iald (pc' := 114) (j := nWo r (2 ^ c)) (by first | rfl | assumption) (by omega) (by omega) (by decide) dX0_weigh_113 rfl ?_
        rw [(i4 _ (by omega)).1, hco.1]
        refine gj_iadd (pc' := 115) dX0_weigh_114 rfl ?_
        refine gj_istore (pc' := 117) dX0_weigh_115 rfl (by decide) ?_
        refine gj_iload (pc' := 119) dX0_weigh_117 rfl rfl ?_
        refine gj_aload_n (pc' := 120) dX0_weigh_119 rfl rfl ?_
        refine gf_X0_13 (pc' := 123) dX0_weigh_120 rfl (by first | rfl | assumption) rfl ?_
        refine gj_iload_n (pc' := 124) dX0_weigh_123 rfl rfl ?_
        refine gj_iald (pc' := 125) (j := m) (by first | rfl | assumption) (by omega) (by omega) (by decide) dX0_weigh_124 rfl ?_
        rw [i5]
        refine gj_icmp_ge (pc' := 128) (tgt := 152) dX0_weigh_125 (by decide) rfl (by omega) (fun c125 => ?_) (fun c125 => ?_)
        · refine gj_iload (pc' := 154) dX0_weigh_152 rfl rfl ?_
          refine gj_aload_n (pc' := 155) dX0_weigh_154 rfl rfl ?_
          refine gf_X0_13 (pc' := 158) dX0_weigh_155 rfl (by first | rfl | assumption) rfl ?_
          refine gj_iload_n (pc' := 159) dX0_weigh_158 rfl rfl ?_
          refine gj_iald (pc' := 160) (j := m) (by first | rfl | assumption) (by omega) (by omega) (by decide) dX0_weigh_159 rfl ?_
          rw [i5]
          refine gj_icmp_ne (pc' := 163) (tgt := 179) dX0_weigh_160 (by decide) rfl (by omega) (fun c160 => ?_) (fun c160 => ?_)
          · refine gj_iinc (pc' := 182) dX0_weigh_179 rfl rfl (by decide) ?_
            refine gj_goto (pc' := 53) dX0_weigh_182 (by decide) ?_
            refine gJ_wk (ih_c  _ (by omega) ?iv_3) ?ll_3
            case ll_3 =>
              repeat' (first | exact True.intro | with_reducible exact rfl | refine And.intro ?_ ?_ | refine vI ?_ | refine vL ?_)
              all_goals omega
            first
            | (rw [es, hE, c69, Bool.false_and, if_neg Bool.false_ne_true]; exact ⟨by omega, i2, i3, i4, i5, i6⟩)
            | (rw [es, hE, c69, c81, Bool.and_false, if_neg Bool.false_ne_true]; exact ⟨by omega, i2, i3, i4, i5, i6⟩)
            | (rw [es, hE, c69, c81, Bool.and_true, if_pos rfl, hyc]
               unfold mrg
               first
               | (rw [if_pos (show nD (tLe T S b) (tLe T S c) + y1 < x1 by omega)]
                  refine ⟨by omega, i2, fun o o1 o2 => (gui_n o2).trans ((gui_n o1).trans (i3 o o1 o2)), fun k hk => ⟨?_, ?_⟩, ?_, ?_⟩
                  · rw [gui_n (by decide), gui_s, up1_n hk]; exact (i4 k hk).1
                  · rw [gui_s, up1_n hk, gui_n (by decide)]; exact (i4 k hk).2
                  · rw [gui_n (by decide), gui_s, up1_s]; show _ = ((nD (tLe T S b) (tLe T S c) + y1 : Nat) : Int); omega
                  · rw [gui_s, up1_s])
               | (rw [if_neg (show ¬ nD (tLe T S b) (tLe T S c) + y1 < x1 by omega), if_pos (show nD (tLe T S b) (tLe T S c) + y1 = x1 by omega)]
                  refine ⟨by omega, i2, fun o o1 o2 => (gui_n o2).trans (i3 o o1 o2), fun k hk => ⟨?_, ?_⟩, ?_, ?_⟩
                  · rw [gui_n (by decide)]; exact (i4 k hk).1
                  · rw [gui_s, up1_n hk]; exact (i4 k hk).2
                  · rw [gui_n (by decide)]; exact i5
                  · rw [gui_s, up1_s]; show _ = ((x2 + y2' : Nat) : Int); omega)
               | (rw [if_neg (show ¬ nD (tLe T S b) (tLe T S c) + y1 < x1 by omega), if_neg (show ¬ nD (tLe T S b) (tLe T S c) + y1 = x1 by omega)]
                  exact ⟨by omega, i2, i3, i4, i5, i6⟩))
          · refine gj_aload_n (pc' := 164) dX0_weigh_163 rfl rfl ?_
            refine gf_X0_17 (pc' := 167) dX0_weigh_164 rfl (by first | rfl | assumption) rfl ?_
            refine gj_iload_n (pc' := 168) dX0_weigh_167 rfl rfl ?_
            refine gj_dup2 (pc' := 169) dX0_weigh_168 rfl rfl rfl ?_
            refine gj_iald (pc' := 170) (j := m) (by first | rfl | assumption) (by omega) (by omega) (by decide) dX0_weigh_169 rfl ?_
            rw [i6]
            refine gj_aload_n (pc' := 171) dX0_weigh_170 rfl rfl ?_
            refine gf_X0_17 (pc' := 174) dX0_weigh_171 rfl (by first | rfl | assumption) rfl ?_
            refine gj_iload (pc' := 176) dX0_weigh_174 rfl rfl ?_
            refine gj_iald (pc' := 177) (j := nWo r (2 ^ c)) (by first | rfl | assumption) (by omega) (by omega) (by decide) dX0_weigh_176 rfl ?_
            rw [(i4 _ (by omega)).2, hco.2]
            refine gj_iadd (pc' := 178) dX0_weigh_177 rfl ?_
            refine gj_iast (pc' := 179) (j := m) (by first | rfl | assumption) (by omega) (by omega) (by decide) dX0_weigh_178 rfl ?_
            refine gj_iinc (pc' := 182) dX0_weigh_179 rfl rfl (by decide) ?_
            refine gj_goto (pc' := 53) dX0_weigh_182 (by decide) ?_
            refine gJ_wk (ih_c  _ (by omega) ?iv_4) ?ll_4
            case ll_4 =>
              repeat' (first | exact True.intro | with_reducible exact rfl | refine And.intro ?_ ?_ | refine vI ?_ | refine vL ?_)
              all_goals omega
            first
            | (rw [es, hE, c69, Bool.false_and, if_neg Bool.false_ne_true]; exact ⟨by omega, i2, i3, i4, i5, i6⟩)
            | (rw [es, hE, c69, c81, Bool.and_false, if_neg Bool.false_ne_true]; exact ⟨by omega, i2, i3, i4, i5, i6⟩)
            | (rw [es, hE, c69, c81, Bool.and_true, if_pos rfl, hyc]
               unfold mrg
               first
               | (rw [if_pos (show nD (tLe T S b) (tLe T S c) + y1 < x1 by omega)]
                  refine ⟨by omega, i2, fun o o1 o2 => (gui_n o2).trans ((gui_n o1).trans (i3 o o1 o2)), fun k hk => ⟨?_, ?_⟩, ?_, ?_⟩
                  · rw [gui_n (by decide), gui_s, up1_n hk]; exact (i4 k hk).1
                  · rw [gui_s, up1_n hk, gui_n (by decide)]; exact (i4 k hk).2
                  · rw [gui_n (by decide), gui_s, up1_s]; show _ = ((nD (tLe T S b) (tLe T S c) + y1 : Nat) : Int); omega
                  · rw [gui_s, up1_s])
               | (rw [if_neg (show ¬ nD (tLe T S b) (tLe T S c) + y1 < x1 by omega), if_pos (show nD (tLe T S b) (tLe T S c) + y1 = x1 by omega)]
                  refine ⟨by omega, i2, fun o o1 o2 => (gui_n o2).trans (i3 o o1 o2), fun k hk => ⟨?_, ?_⟩, ?_, ?_⟩
                  · rw [gui_n (by decide)]; exact (i4 k hk).1
                  · rw [gui_s, up1_n hk]; exact (i4 k hk).2
                  · rw [gui_n (by decide)]; exact i5
                  · rw [gui_s, up1_s]; show _ = ((x2 + y2' : Nat) : Int); omega)
               | (rw [if_neg (show ¬ nD (tLe T S b) (tLe T S c) + y1 < x1 by omega), if_neg (show ¬ nD (tLe T S b) (tLe T S c) + y1 = x1 by omega)]
                  exact ⟨by omega, i2, i3, i4, i5, i6⟩))
        · refine gj_aload_n (pc' := 129) dX0_weigh_128 rfl rfl ?_
          refine gf_X0_13 (pc' := 132) dX0_weigh_129 rfl (by first | rfl | assumption) rfl ?_
          refine gj_iload_n (pc' := 133) dX0_weigh_132 rfl rfl ?_
          refine gj_iload (pc' := 135) dX0_weigh_133 rfl rfl ?_
          refine gj_iast (pc' := 136) (j := m) (by first | rfl | assumption) (by omega) (by omega) (by decide) dX0_weigh_135 rfl ?_
          refine gj_aload_n (pc' := 137) dX0_weigh_136 rfl rfl ?_
          refine gf_X0_17 (pc' := 140) dX0_weigh_137 rfl (by first | rfl | assumption) rfl ?_
          refine gj_iload_n (pc' := 141) dX0_weigh_140 rfl rfl ?_
          refine gj_aload_n (pc' := 142) dX0_weigh_141 rfl rfl ?_
          refine gf_X0_17 (pc' := 145) dX0_weigh_142 rfl (by first | rfl | assumption) rfl ?_
          refine gj_iload (pc' := 147) dX0_weigh_145 rfl rfl ?_
          refine gj_iald (pc' := 148) (j := nWo r (2 ^ c)) (by first | rfl | assumption) (by omega) (by omega) (by decide) dX0_weigh_147 rfl ?_
          rw [gui_n (by decide), (i4 _ (by omega)).2, hco.2]
          refine gj_iast (pc' := 149) (j := m) (by first | rfl | assumption) (by omega) (by omega) (by decide) dX0_weigh_148 rfl ?_
          refine gj_goto (pc' := 179) dX0_weigh_149 (by decide) ?_
          refine gj_iinc (pc' := 182) dX0_weigh_179 rfl rfl (by decide) ?_
          refine gj_goto (pc' := 53) dX0_weigh_182 (by decide) ?_
          refine gJ_wk (ih_c  _ (by omega) ?iv_5) ?ll_5
          case ll_5 =>
            repeat' (first | exact True.intro | with_reducible exact rfl | refine And.intro ?_ ?_ | refine vI ?_ | refine vL ?_)
            all_goals omega
          first
          | (rw [es, hE, c69, Bool.false_and, if_neg Bool.false_ne_true]; exact ⟨by omega, i2, i3, i4, i5, i6⟩)
          | (rw [es, hE, c69, c81, Bool.and_false, if_neg Bool.false_ne_true]; exact ⟨by omega, i2, i3, i4, i5, i6⟩)
          | (rw [es, hE, c69, c81, Bool.and_true, if_pos rfl, hyc]
             unfold mrg
             first
             | (rw [if_pos (show nD (tLe T S b) (tLe T S c) + y1 < x1 by omega)]
                refine ⟨by omega, i2, fun o o1 o2 => (gui_n o2).trans ((gui_n o1).trans (i3 o o1 o2)), fun k hk => ⟨?_, ?_⟩, ?_, ?_⟩
                · rw [gui_n (by decide), gui_s, up1_n hk]; exact (i4 k hk).1
                · rw [gui_s, up1_n hk, gui_n (by decide)]; exact (i4 k hk).2
                · rw [gui_n (by decide), gui_s, up1_s]; show _ = ((nD (tLe T S b) (tLe T S c) + y1 : Nat) : Int); omega
                · rw [gui_s, up1_s])
             | (rw [if_neg (show ¬ nD (tLe T S b) (tLe T S c) + y1 < x1 by omega), if_pos (show nD (tLe T S b) (tLe T S c) + y1 = x1 by omega)]
                refine ⟨by omega, i2, fun o o1 o2 => (gui_n o2).trans (i3 o o1 o2), fun k hk => ⟨?_, ?_⟩, ?_, ?_⟩
                · rw [gui_n (by decide)]; exact (i4 k hk).1
                · rw [gui_s, up1_n hk]; exact (i4 k hk).2
                · rw [gui_n (by decide)]; exact i5
                · rw [gui_s, up1_s]; show _ = ((x2 + y2' : Nat) : Int); omega)
             | (rw [if_neg (show ¬ nD (tLe T S b) (tLe T S c) + y1 < x1 by omega), if_neg (show ¬ nD (tLe T S b) (tLe T S c) + y1 = x1 by omega)]
                exact ⟨by omega, i2, i3, i4, i5, i6⟩))
      · refine gj_goto (pc' := 179) dX0_weigh_84 (by decide) ?_
        refine gj_iinc (pc' := 182) dX0_weigh_179 rfl rfl (by decide) ?_
        refine gj_goto (pc' := 53) dX0_weigh_182 (by decide) ?_
        refine gJ_wk (ih_c  _ (by omega) ?iv_6) ?ll_6
        case ll_6 =>
          repeat' (first | exact True.intro | with_reducible exact rfl | refine And.intro ?_ ?_ | refine vI ?_ | refine vL ?_)
          all_goals omega
        first
        | (rw [es, hE, c69, Bool.false_and, if_neg Bool.false_ne_true]; exact ⟨by omega, i2, i3, i4, i5, i6⟩)
        | (rw [es, hE, c69, c81, Bool.and_false, if_neg Bool.false_ne_true]; exact ⟨by omega, i2, i3, i4, i5, i6⟩)
        | (rw [es, hE, c69, c81, Bool.and_true, if_pos rfl, hyc]
           unfold mrg
           first
           | (rw [if_pos (show nD (tLe T S b) (tLe T S c) + y1 < x1 by omega)]
              refine ⟨by omega, i2, fun o o1 o2 => (gui_n o2).trans ((gui_n o1).trans (i3 o o1 o2)), fun k hk => ⟨?_, ?_⟩, ?_, ?_⟩
              · rw [gui_n (by decide), gui_s, up1_n hk]; exact (i4 k hk).1
              · rw [gui_s, up1_n hk, gui_n (by decide)]; exact (i4 k hk).2
              · rw [gui_n (by decide), gui_s, up1_s]; show _ = ((nD (tLe T S b) (tLe T S c) + y1 : Nat) : Int); omega
              · rw [gui_s, up1_s])
           | (rw [if_neg (show ¬ nD (tLe T S b) (tLe T S c) + y1 < x1 by omega), if_pos (show nD (tLe T S b) (tLe T S c) + y1 = x1 by omega)]
              refine ⟨by omega, i2, fun o o1 o2 => (gui_n o2).trans (i3 o o1 o2), fun k hk => ⟨?_, ?_⟩, ?_, ?_⟩
              · rw [gui_n (by decide)]; exact (i4 k hk).1
              · rw [gui_s, up1_n hk]; exact (i4 k hk).2
              · rw [gui_n (by decide)]; exact i5
              · rw [gui_s, up1_s]; show _ = ((x2 + y2' : Nat) : Int); omega)
           | (rw [if_neg (show ¬ nD (tLe T S b) (tLe T S c) + y1 < x1 by omega), if_neg (show ¬ nD (tLe T S b) (tLe T S c) + y1 = x1 by omega)]
              exact ⟨by omega, i2, i3, i4, i5, i6⟩))
theorem nPr_lt2 {T S : Nat → Nat} : nPr T S < 2 ^ T 4 := by
  have h := nWo_le (2 ^ T 4 - 1) (S 19)
  have h1 : 1 ≤ 2 ^ T 4 := Nat.one_le_two_pow
  unfold nPr
  omega
theorem s_weighSets {h : gH} {t : Nat} {T S : Nat → Nat} (hI : CI h t T S) : gSp 4 yX0_weighSets cX0_weighSets 5 none [.ref 135, .ref t, .ref 52] h (fun v h' => v = none ∧ h'.2 = h.2 ∧ (∀ o, o ≠ 136 → o ≠ 137 → h'.1 o = h.1 o) ∧ pzC h' T S (fun y => nWo y (nPr T S) = 0)) := by
  obtain ⟨ht, hP, hT, hS, hA, hB, hN⟩ := id hI
  have htt : t = 6 ∨ t = 29 := ht
  have hl := nPr_lt (S := S) hT
  have hl2 := nPr_lt2 (T := T) (S := S)
  refine gSp_of (by decide +kernel) (Nat.le_of_ble_eq_true rfl) ?_
  show gJ RX0 cX0_weighSets 5 none _ 0 [some (.ref 135), some (.ref t), some (.ref 52), none, none] [] _ _
  refine gj_aload_n (pc' := 1) dX0_weighSets_0 rfl rfl ?_
  refine gj_aload_n (pc' := 2) dX0_weighSets_1 rfl rfl ?_
  refine gr_X0_34 (pc' := 5) dX0_weighSets_2 rfl (s_present hI) rfl (by first | rfl | assumption) (by decide) rfl (Nat.le_of_ble_eq_true rfl) ?_
  rw [show nWo (2 ^ T 4 - 1) (S 19) = nPr T S from rfl] at hl ⊢
  generalize nPr T S = am at hl hl2 ⊢
  refine gj_istore_n (pc' := 6) dX0_weighSets_5 rfl (by decide) ?_
  refine gj_aload_n (pc' := 7) dX0_weighSets_6 rfl rfl ?_
  refine gf_X0_13 (pc' := 10) dX0_weighSets_7 rfl (by first | rfl | assumption) rfl ?_
  refine gj_iconst (pc' := 11) dX0_weighSets_10 rfl ?_
  refine gj_iconst (pc' := 12) dX0_weighSets_11 rfl ?_
  refine gj_iast (pc' := 13) (j := 0) (by first | rfl | assumption) (by omega) (by omega) (by decide) dX0_weighSets_12 rfl ?_
  refine gj_aload_n (pc' := 14) dX0_weighSets_13 rfl rfl ?_
  refine gf_X0_17 (pc' := 17) dX0_weighSets_14 rfl (by first | rfl | assumption) rfl ?_
  refine gj_iconst (pc' := 18) dX0_weighSets_17 rfl ?_
  refine gj_iconst (pc' := 19) dX0_weighSets_18 rfl ?_
  refine gj_iast (pc' := 20) (j := 0) (by first | rfl | assumption) (by omega) (by omega) (by decide) dX0_weighSets_19 rfl ?_
  refine gj_iconst (pc' := 21) dX0_weighSets_20 rfl ?_
  refine gj_istore (pc' := 23) dX0_weighSets_21 rfl (by decide) ?_
  refine gJ_wk (gJ_fH0 (L := fun k  => [some (.ref 135), some (.ref t), some (.ref 52), some (.int (zI (am : Int))), some (.int (zI ((k : Int) + 1)))]) (I := fun k  hp => hp.2 = h.2 ∧ (∀ o, o ≠ 136 → o ≠ 137 → hp.1 o = h.1 o) ∧ pzC hp T S (fun y => y ≤ k ∧ nWo y am = 0)) (am) (fun k  hp hb_k iv_k ih_k => ?step_1) (0) (Nat.zero_le _)  _ ?iv0_1) ?ll0_1
  case ll0_1 =>
    repeat' (first | exact True.intro | with_reducible exact rfl | refine And.intro ?_ ?_ | refine vI ?_ | refine vL ?_)
    all_goals first | rfl | omega
  case iv0_1 =>
    refine ⟨rfl, fun o o1 o2 => (gui_n o2).trans (gui_n o1), fun y hy => ?_⟩
    obtain rfl : y = 0 := by omega
    rw [pz_0]
    exact ⟨by rw [gui_n (by decide), gui_s, up1_s]; rfl, by rw [gui_s, up1_s]; rfl⟩
  obtain ⟨i1, i2, i3⟩ := iv_k
  have hI2 : CI hp t T S := hI.to2 i1 (fun o o1 o2 => i2 o (by omega) (by omega)) (fun o o1 o2 => i2 o (by omega) (by omega))
  rw [show ((k : Int) + 1) = ((k + 1 : Nat) : Int) by omega]
  have b5 := nWo_le (k + 1) am
  refine gj_iload (pc' := 25) dX0_weighSets_23 rfl rfl ?_
  refine gj_iload_n (pc' := 26) dX0_weighSets_25 rfl rfl ?_
  refine gj_icmp_gt (pc' := 29) (tgt := 52) dX0_weighSets_26 (by decide) rfl (by omega) (fun c26 => ?_) (fun c26 => ?_)
  · refine gj_vret rfl dX0_weighSets_52 ?_
    exact ⟨rfl, i1, i2, fun y hy => i3 y ⟨by have := nWo_0 hy; omega, hy⟩⟩
  · refine gj_iload (pc' := 31) dX0_weighSets_29 rfl rfl ?_
    refine gj_iload_n (pc' := 32) dX0_weighSets_31 rfl rfl ?_
    refine gj_iconst (pc' := 33) dX0_weighSets_32 rfl ?_
    refine gj_ixor (pc' := 34) dX0_weighSets_33 rfl ?_
    refine gj_iand (pc' := 35) dX0_weighSets_34 rfl ?_
    rw [bt_wo (by omega) (by omega)]
    refine gj_if_ne (pc' := 38) (tgt := 46) dX0_weighSets_35 (by decide) rfl (by omega) (fun c35 => ?_) (fun c35 => ?_)
    · refine gj_iinc (pc' := 49) dX0_weighSets_46 rfl rfl (by decide) ?_
      refine gj_goto (pc' := 23) dX0_weighSets_49 (by decide) ?_
      refine gJ_wk (ih_k  _ (by omega) ?iv_2) ?ll_2
      case ll_2 =>
        repeat' (first | exact True.intro | with_reducible exact rfl | refine And.intro ?_ ?_ | refine vI ?_ | refine vL ?_)
        all_goals omega
      first
      | (exfalso; omega)
      | exact ⟨w0.trans i1, fun o o1 o2 => (w1 o o1 o2).trans (i2 o o1 o2), fun y hy => by
          by_cases q : y = k + 1
          · rw [q]; exact ⟨w3, w4⟩
          · rw [(w2 y q).1, (w2 y q).2]; exact i3 y ⟨by omega, hy.2⟩⟩
      | exact ⟨i1, i2, fun y hy => i3 y ⟨by
          rcases Nat.lt_or_ge k y with q | q
          · exfalso
            obtain rfl : y = k + 1 := by omega
            omega
          · exact q, hy.2⟩⟩
    · refine gj_aload_n (pc' := 39) dX0_weighSets_38 rfl rfl ?_
      refine gj_aload_n (pc' := 40) dX0_weighSets_39 rfl rfl ?_
      refine gj_aload_n (pc' := 41) dX0_weighSets_40 rfl rfl ?_
      refine gj_iload (pc' := 43) dX0_weighSets_41 rfl rfl ?_
      refine gc_X0_38 (pc' := 46) dX0_weighSets_43 rfl (s_weigh (m := k + 1) hI2 (by omega) (by omega) (fun y hy => i3 y ⟨by omega, nWo_tr hy.2 (by omega)⟩)) rfl (by first | rfl | assumption) (by decide) rfl (Nat.le_of_ble_eq_true rfl) (fun v9 h9 q9 => ?_)
      obtain ⟨rfl, w0, w1, w2, w3, w4⟩ := q9
      obtain ⟨hd, rfl⟩ : ∃ x, x = h9 := ⟨h9, rfl⟩
      show gJ _ _ _ _ _ _ _ [] _ _
      refine gj_iinc (pc' := 49) dX0_weighSets_46 rfl rfl (by decide) ?_
      refine gj_goto (pc' := 23) dX0_weighSets_49 (by decide) ?_
      refine gJ_wk (ih_k  _ (by omega) ?iv_3) ?ll_3
      case ll_3 =>
        repeat' (first | exact True.intro | with_reducible exact rfl | refine And.intro ?_ ?_ | refine vI ?_ | refine vL ?_)
        all_goals omega
      first
      | (exfalso; omega)
      | exact ⟨w0.trans i1, fun o o1 o2 => (w1 o o1 o2).trans (i2 o o1 o2), fun y hy => by
          by_cases q : y = k + 1
          · rw [q]; exact ⟨w3, w4⟩
          · rw [(w2 y q).1, (w2 y q).2]; exact i3 y ⟨by omega, hy.2⟩⟩
      | exact ⟨i1, i2, fun y hy => i3 y ⟨by
          rcases Nat.lt_or_ge k y with q | q
          · exfalso
            obtain rfl : y = k + 1 := by omega
            omega
          · exact q, hy.2⟩⟩
theorem s_cheapest {h : gH} {t : Nat} {T S : Nat → Nat} (hI : CI h t T S) : gSp 5 yX0_cheapest cX0_cheapest 3 (some .int) [.ref 135, .ref t, .ref 52] h (fun v h' => v = some (.int (zI ((pz T S (T 4) (nPr T S)).1 : Nat))) ∧ h'.2 = h.2 ∧ (∀ o, o ≠ 136 → o ≠ 137 → h'.1 o = h.1 o)) := by
  obtain ⟨ht, hP, hT, hS, hA, hB, hN⟩ := id hI
  have htt : t = 6 ∨ t = 29 := ht
  have hl : nPr T S < 128 := nPr_lt (S := S) hT
  have hz : nWo (nPr T S) (nPr T S) = 0 := nWo_z (fun _ q => q)
  refine gSp_of (by decide +kernel) (Nat.le_of_ble_eq_true rfl) ?_
  show gJ RX0 cX0_cheapest 3 (some .int) _ 0 [some (.ref 135), some (.ref t), some (.ref 52)] [] _ _
  refine gj_aload_n (pc' := 1) dX0_cheapest_0 rfl rfl ?_
  refine gj_aload_n (pc' := 2) dX0_cheapest_1 rfl rfl ?_
  refine gj_aload_n (pc' := 3) dX0_cheapest_2 rfl rfl ?_
  refine gc_X0_30 (pc' := 6) dX0_cheapest_3 rfl (s_weighSets hI) rfl (by first | rfl | assumption) (by decide) rfl (Nat.le_of_ble_eq_true rfl) (fun v9 h9 q9 => ?_)
  obtain ⟨rfl, i1, i2, i3⟩ := q9
  obtain ⟨hd, rfl⟩ : ∃ x, x = h9 := ⟨h9, rfl⟩
  have hI2 : CI hd t T S := hI.to2 i1 (fun o o1 o2 => i2 o (by omega) (by omega)) (fun o o1 o2 => i2 o (by omega) (by omega))
  show gJ _ _ _ _ _ _ _ [] _ _
  refine gj_aload_n (pc' := 7) dX0_cheapest_6 rfl rfl ?_
  refine gf_X0_13 (pc' := 10) dX0_cheapest_7 rfl (by first | rfl | assumption) rfl ?_
  refine gj_aload_n (pc' := 11) dX0_cheapest_10 rfl rfl ?_
  refine gj_aload_n (pc' := 12) dX0_cheapest_11 rfl rfl ?_
  refine gr_X0_34 (pc' := 15) dX0_cheapest_12 rfl (s_present hI2) rfl (by first | rfl | assumption) (by decide) rfl (Nat.le_of_ble_eq_true rfl) ?_
  rw [show nWo (2 ^ T 4 - 1) (S 19) = nPr T S from rfl]
  refine gj_iald (pc' := 16) (j := nPr T S) (by first | rfl | assumption) (by omega) (by omega) (by decide) dX0_cheapest_15 rfl ?_
  rw [(i3 _ hz).1]
  refine gj_iret rfl dX0_cheapest_16 ?_
  exact ⟨rfl, i1, i2⟩
theorem s_cheapRows {h : gH} {t : Nat} {T S : Nat → Nat} (hI : CI h t T S) : gSp 5 yX0_cheapestRows cX0_cheapestRows 3 (some .int) [.ref 135, .ref t, .ref 52] h (fun v h' => v = some (.int (zI ((pz T S (T 4) (nPr T S)).2.1 : Nat))) ∧ h'.2 = h.2 ∧ (∀ o, o ≠ 136 → o ≠ 137 → h'.1 o = h.1 o)) := by
  obtain ⟨ht, hP, hT, hS, hA, hB, hN⟩ := id hI
  have htt : t = 6 ∨ t = 29 := ht
  have hl : nPr T S < 128 := nPr_lt (S := S) hT
  have hz : nWo (nPr T S) (nPr T S) = 0 := nWo_z (fun _ q => q)
  refine gSp_of (by decide +kernel) (Nat.le_of_ble_eq_true rfl) ?_
  show gJ RX0 cX0_cheapestRows 3 (some .int) _ 0 [some (.ref 135), some (.ref t), some (.ref 52)] [] _ _
  refine gj_aload_n (pc' := 1) dX0_cheapestRows_0 rfl rfl ?_
  refine gj_aload_n (pc' := 2) dX0_cheapestRows_1 rfl rfl ?_
  refine gj_aload_n (pc' := 3) dX0_cheapestRows_2 rfl rfl ?_
  refine gc_X0_30 (pc' := 6) dX0_cheapestRows_3 rfl (s_weighSets hI) rfl (by first | rfl | assumption) (by decide) rfl (Nat.le_of_ble_eq_true rfl) (fun v9 h9 q9 => ?_)
  obtain ⟨rfl, i1, i2, i3⟩ := q9
  obtain ⟨hd, rfl⟩ : ∃ x, x = h9 := ⟨h9, rfl⟩
  have hI2 : CI hd t T S := hI.to2 i1 (fun o o1 o2 => i2 o (by omega) (by omega)) (fun o o1 o2 => i2 o (by omega) (by omega))
  show gJ _ _ _ _ _ _ _ [] _ _
  refine gj_aload_n (pc' := 7) dX0_cheapestRows_6 rfl rfl ?_
  refine gf_X0_17 (pc' := 10) dX0_cheapestRows_7 rfl (by first | rfl | assumption) rfl ?_
  refine gj_aload_n (pc' := 11) dX0_cheapestRows_10 rfl rfl ?_
  refine gj_aload_n (pc' := 12) dX0_cheapestRows_11 rfl rfl ?_
  refine gr_X0_34 (pc' := 15) dX0_cheapestRows_12 rfl (s_present hI2) rfl (by first | rfl | assumption) (by decide) rfl (Nat.le_of_ble_eq_true rfl) ?_
  rw [show nWo (2 ^ T 4 - 1) (S 19) = nPr T S from rfl]
  refine gj_iald (pc' := 16) (j := nPr T S) (by first | rfl | assumption) (by omega) (by omega) (by decide) dX0_cheapestRows_15 rfl ?_
  rw [(i3 _ hz).2]
  refine gj_iret rfl dX0_cheapestRows_16 ?_
  exact ⟨rfl, i1, i2⟩
