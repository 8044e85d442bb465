/-! the class's Reader: the whole text -/
def pgo (p e : Nat) (r : Nat × Nat × Nat) : Prop := r.1 = 0 → p ≤ r.2.2 ∧ r.2.2 ≤ e
theorem pgo_x {p e k s : Nat} (hk : k ≠ 0) : pgo p e (k, s, 0) := fun z => absurd (show k = 0 from z) hk
theorem pgo_t {B : Nat → Nat} {p e v : Nat} (hp : p ≤ e) : pgo p e (0, v, tEn B e p) := fun _ => by
  have a := tEn_in (B := B) hp
  have b := tS_in (B := B) hp
  show p ≤ tEn B e p ∧ tEn B e p ≤ e
  omega
theorem pgoW {B : Nat → Nat} {e w p : Nat} (hp : p ≤ e) : pgo p e (ptW B e w p) := by
  unfold ptW
  split
  · exact pgo_t hp
  · exact pgo_x (by decide)
theorem pgoI {B : Nat → Nat} {e lo hi p : Nat} (hp : p ≤ e) : pgo p e (ptI B e lo hi p) := by
  unfold ptI
  split
  · exact pgo_x (by decide)
  · split
    · exact pgo_t hp
    · exact pgo_x (by decide)
theorem pgoN {B : Nat → Nat} {e w lo hi p : Nat} (hp : p ≤ e) : pgo p e (ptN B e w lo hi p) := by
  unfold ptN
  split
  · intro z
    have a := tEn_in (B := B) hp
    have b := tS_in (B := B) hp
    have c := pgoI (B := B) (e := e) (lo := lo) (hi := hi) (p := tEn B e p) a.2.1 z
    omega
  · exact pgo_x (by decide)
theorem pgoK {B : Nat → Nat} {e p : Nat} (hp : p ≤ e) : pgo p e (ptK B e p) := by
  unfold ptK
  split
  · exact pgo_t hp
  · split
    · exact pgo_t hp
    · split
      · exact pgo_t hp
      · split
        · exact pgo_t hp
        · exact pgo_x (by decide)
theorem pgoM {B : Nat → Nat} {e p : Nat} {T : Nat → Nat} (hp : p ≤ e) : pgo p e (ptM B e T p) := by
  unfold ptM
  split
  · exact pgo_x (by decide)
  · split
    · exact pgo_x (by decide)
    · exact pgo_t hp
theorem pgoH {B : Nat → Nat} {e p : Nat} {T : Nat → Nat} {u : Int} (hp : p ≤ e) : pgo p e (ptH B e T u p) := by
  unfold ptH
  split
  · exact pgo_x (by decide)
  · split
    · exact pgo_x (by decide)
    · split
      · exact pgo_x (by decide)
      · exact pgo_t hp
/-- a sound line goes on, and the loft is told -/
def lgo (p e : Nat) (r : Nat × Nat × (Nat → Nat)) : Prop := r.1 = 0 → (p ≤ r.2.1 ∧ r.2.1 ≤ e) ∧ r.2.2 0 ≠ 0
theorem lgo_x {p e k s : Nat} (hk : k ≠ 0) : lgo p e (k, s, fun _ => 0) := fun z => absurd (show k = 0 from z) hk
theorem lgo_bd {p0 p e : Nat} {r : Nat × Nat × Nat} {f : Nat → Nat → Nat × Nat × (Nat → Nat)} (hr : pgo p e r) (h0 : p0 ≤ p) (hf : r.1 = 0 → p0 ≤ r.2.2 → r.2.2 ≤ e → lgo p0 e (f r.2.1 r.2.2)) : lgo p0 e (bd r f) := by
  by_cases g : r.1 = 0
  · rw [bd_0 g]
    have := hr g
    exact hf g (by omega) this.2
  · rw [bd_1 g]
    exact lgo_x g
theorem lgo_e {p0 e p : Nat} {T : Nat → Nat} (h : p0 ≤ p ∧ p ≤ e) (h0 : T 0 ≠ 0) : lgo p0 e (0, p, T) := fun _ => ⟨h, h0⟩
theorem lgoL {B : Nat → Nat} {e p : Nat} {T : Nat → Nat} (hp : p ≤ e) : lgo p e (lnL B e T p) := by
  have a := tEn_in (B := B) hp
  have b := tS_in (B := B) hp
  unfold lnL
  refine lgo_bd (pgoN a.2.1) (by omega) (fun g a1 a2 => ?_)
  have w := ptN_b g
  refine lgo_bd (pgoN a2) a1 (fun _ b1 b2 => ?_)
  refine lgo_bd (pgoN b2) b1 (fun _ c1 c2 => ?_)
  refine lgo_e ⟨c1, c2⟩ ?_
  rw [uT_n (by decide), uT_n (by decide), uT_s]
  omega
theorem lgoH {B : Nat → Nat} {e p : Nat} {T : Nat → Nat} (hp : p ≤ e) (h0 : T 0 ≠ 0) : lgo p e (lnH B e T p) := by
  have a := tEn_in (B := B) hp
  have b := tS_in (B := B) hp
  unfold lnH
  refine lgo_bd (pgoM a.2.1) (by omega) (fun _ a1 a2 => ?_)
  refine lgo_bd (pgoN a2) a1 (fun _ b1 b2 => ?_)
  refine lgo_bd (pgoN b2) b1 (fun _ c1 c2 => ?_)
  refine lgo_e ⟨c1, c2⟩ ?_
  rw [uT_n (by decide), uT_n (by omega), uT_n (by omega), tkN_lo (by decide)]
  exact h0
theorem lgoS {B : Nat → Nat} {e p : Nat} {T : Nat → Nat} (hp : p ≤ e) (h0 : T 0 ≠ 0) : lgo p e (lnS B e T p) := by
  have a := tEn_in (B := B) hp
  have b := tS_in (B := B) hp
  unfold lnS
  refine lgo_bd (pgoM a.2.1) (by omega) (fun _ a1 a2 => ?_)
  refine lgo_bd (pgoW a2) a1 (fun _ b1 b2 => ?_)
  refine lgo_bd (pgoH b2) b1 (fun _ c1 c2 => ?_)
  refine lgo_bd (pgoN c2) c1 (fun _ d1 d2 => ?_)
  refine lgo_e ⟨d1, d2⟩ ?_
  rw [uT_n (by decide), uT_n (by omega), uT_n (by omega), tkN_lo (by decide)]
  exact h0
theorem lgoK {B : Nat → Nat} {e p : Nat} {T : Nat → Nat} (hp : p ≤ e) (h0 : T 0 ≠ 0) : lgo p e (lnK B e T p) := by
  have a := tEn_in (B := B) hp
  have b := tS_in (B := B) hp
  unfold lnK
  refine lgo_bd (pgoH a.2.1) (by omega) (fun _ a1 a2 => ?_)
  refine lgo_bd (pgoW a2) a1 (fun _ b1 b2 => ?_)
  refine lgo_bd (pgoI b2) b1 (fun _ c1 c2 => ?_)
  split
  · exact lgo_x (by decide)
  · refine lgo_bd (pgoN c2) c1 (fun _ d1 d2 => ?_)
    refine lgo_e ⟨d1, d2⟩ ?_
    rw [uT_n (by decide), uT_n (by omega), uT_n (by omega), uT_n (by omega)]
    exact h0
theorem lgoB {B : Nat → Nat} {e p : Nat} {T : Nat → Nat} (hp : p ≤ e) (h0 : T 0 ≠ 0) : lgo p e (lnB B e T p) := by
  have a := tEn_in (B := B) hp
  have b := tS_in (B := B) hp
  unfold lnB
  refine lgo_bd (pgoM a.2.1) (by omega) (fun _ a1 a2 => ?_)
  refine lgo_bd (pgoK a2) a1 (fun _ b1 b2 => ?_)
  refine lgo_bd (pgoW b2) b1 (fun _ c1 c2 => ?_)
  refine lgo_bd (pgoH c2) c1 (fun _ d1 d2 => ?_)
  refine lgo_bd (pgoW d2) d1 (fun _ e1 e2 => ?_)
  refine lgo_bd (pgoH e2) e1 (fun _ f1 f2 => ?_)
  refine lgo_bd (pgoN f2) f1 (fun _ g1 g2 => ?_)
  refine lgo_bd (pgoN g2) g1 (fun _ i1 i2 => ?_)
  refine lgo_e ⟨i1, i2⟩ ?_
  rw [uT_n (by decide), uT_n (by omega), uT_n (by omega), uT_n (by omega), uT_n (by omega), uT_n (by omega), tkN_lo (by decide)]
  exact h0
theorem pgoY {B : Nat → Nat} {e a b p : Nat} {T : Nat → Nat} : (ptY B e T a b p).1 = 0 → T 0 ≠ 0 := fun g => (ptY_0 g).2
theorem lgo_Y {B : Nat → Nat} {e a b p : Nat} {T : Nat → Nat} {r : Nat × Nat × (Nat → Nat)} (hr : T 0 ≠ 0 → lgo p e r) : lgo p e (bd (ptY B e T a b p) (fun _ _ => r)) := by
  by_cases g : (ptY B e T a b p).1 = 0
  · rw [bd_0 g]
    exact hr (pgoY g)
  · rw [bd_1 g]
    exact lgo_x g
theorem lgo_L {B : Nat → Nat} {e p : Nat} {T : Nat → Nat} (hp : p ≤ e) : lgo p e (ptL B e T p) := by
  unfold ptL
  split
  · split
    · exact lgo_x (by decide)
    · exact lgoL hp
  · split
    · exact lgo_Y (lgoH hp)
    · split
      · exact lgo_Y (lgoB hp)
      · split
        · exact lgo_Y (lgoS hp)
        · split
          · exact lgo_Y (lgoK hp)
          · exact lgo_x (by decide)
/-- the lines, one behind another -/
def rdS (B : Nat → Nat) (e : Nat) : Nat → Nat × Nat × (Nat → Nat)
  | 0 => ptL B e (fun _ => 0) 0
  | i + 1 => if (rdS B e i).1 = 0 ∧ tSr B e (rdS B e i).2.1 = 3 then ptL B e (rdS B e i).2.2 (tEn B e (rdS B e i).2.1) else rdS B e i
theorem rdS_t {B : Nat → Nat} {e i : Nat} (g : (rdS B e i).1 = 0 ∧ tSr B e (rdS B e i).2.1 = 3) : rdS B e (i + 1) = ptL B e (rdS B e i).2.2 (tEn B e (rdS B e i).2.1) := if_pos g
theorem rdS_f {B : Nat → Nat} {e i : Nat} (g : ¬ ((rdS B e i).1 = 0 ∧ tSr B e (rdS B e i).2.1 = 3)) : ∀ k, rdS B e (i + k) = rdS B e i
  | 0 => rfl
  | k + 1 => by
    have ih := rdS_f g k
    show (if (rdS B e (i + k)).1 = 0 ∧ tSr B e (rdS B e (i + k)).2.1 = 3 then ptL B e (rdS B e (i + k)).2.2 (tEn B e (rdS B e (i + k)).2.1) else rdS B e (i + k)) = _
    rw [ih, if_neg g]
theorem rdS_end {B : Nat → Nat} {e i : Nat} (hi : i ≤ 900) (g : ¬ ((rdS B e i).1 = 0 ∧ tSr B e (rdS B e i).2.1 = 3)) : rdS B e 900 = rdS B e i := by
  have := rdS_f g (900 - i)
  rw [show i + (900 - i) = 900 by omega] at this
  exact this
/-- a semicolon stands ahead of the end -/
theorem tSr_lt {B : Nat → Nat} {e p : Nat} (hp : p ≤ e) (h : tSr B e p = 3) : p < e := by
  have hs := tS_in (B := B) hp
  have h3 : tSo B e p = 3 := by
    unfold tSr at h
    split at h <;> omega
  unfold tSo at h3
  split at h3 <;> omega
theorem rdS_go {B : Nat → Nat} {e : Nat} : ∀ i, (rdS B e i).1 = 0 → (rdS B e i).2.1 ≤ e ∧ (rdS B e i).2.2 0 ≠ 0 ∧ (tSr B e (rdS B e i).2.1 = 3 → i ≤ (rdS B e i).2.1)
  | 0, g => by
    have a := lgo_L (B := B) (e := e) (p := 0) (T := fun _ => 0) (Nat.zero_le _) g
    exact ⟨a.1.2, a.2, fun _ => Nat.zero_le _⟩
  | i + 1, g => by
    have ih := rdS_go (B := B) (e := e) i
    by_cases z : (rdS B e i).1 = 0 ∧ tSr B e (rdS B e i).2.1 = 3
    · obtain ⟨b1, b2, b3⟩ := ih z.1
      rw [rdS_t z] at g ⊢
      have b4 := b3 z.2
      have lt := tSr_lt b1 z.2
      have en := tEn_in (B := B) b1
      have a := lgo_L (B := B) (e := e) (p := tEn B e (rdS B e i).2.1) (T := (rdS B e i).2.2) en.2.1 g
      exact ⟨a.1.2, a.2, fun _ => by omega⟩
    · have e1 : rdS B e (i + 1) = rdS B e i := if_neg z
      rw [e1] at g ⊢
      obtain ⟨b1, b2, b3⟩ := ih g
      exact ⟨b1, b2, fun q => absurd ⟨g, q⟩ z⟩
def rdR (B : Nat → Nat) (e : Nat) : Nat × Nat × (Nat → Nat) := if (rdS B e 900).1 ≠ 0 then rdS B e 900 else if tSr B e (rdS B e 900).2.1 ≠ 0 then (1, tS B e (rdS B e 900).2.1, fun _ => 0) else if (rdS B e 900).2.2 3 < 2 then (6, tS B e (rdS B e 900).2.1, fun _ => 0) else rdS B e 900
theorem TL.tv {T : Nat → Nat} (a : TL T) (h0 : T 0 ≠ 0) (h3 : 2 ≤ T 3) : TV T := by
  obtain ⟨⟨l0, l1, l2, l3, l4, l5, l6⟩, l7, l8, l9, l10, -⟩ := a
  exact ⟨⟨by omega, l0⟩, l1, l2, ⟨h3, l3⟩, l4, l5, l6, l7, l8, l9, l10⟩
theorem LI.st {h h' : gH} {B : Nat → Nat} {e p p' t : Nat} {T : Nat → Nat} (ht : isT t) (a : LI h B e p t T) (q : tpE h h') (c : CTk h' B e p') : LI h' B e p' t T := by
  have htt : t = 6 ∨ t = 29 := ht
  obtain ⟨-, ⟨m, sl, hN⟩, hU, hTA, hSA, hD, hL, hTL⟩ := a
  exact ⟨c, ⟨m, sl, hN.re q.re⟩, hU, hTA.to (fun o o1 o2 => (q.2.1 o (by omega)).1), hSA.to (by rw [(q.2.1 _ (by omega)).1]) (by rw [(q.2.1 _ (by omega)).1]) (q.2.1 _ (by omega)).1 (q.2.1 _ (by omega)).1 (q.2.1 _ (by omega)).1 (q.2.1 _ (by omega)).1 (q.2.1 _ (by omega)).1, by rw [q.1]; exact hD, by rw [(q.2.1 1 (by decide)).1]; exact hL, hTL⟩
def rdE (h h' : gH) (t : Nat) : Prop := h'.2.2 = h.2.2 ∧ (∀ o, o ≠ 1 → o ≠ 2 → o ≠ 5 → (o < t ∨ t + 22 < o) → h'.1 o = h.1 o) ∧ (∀ o, o ≠ 2 → o ≠ 4 → h'.2.1 o = h.2.1 o) ∧ (∀ k, k < 3 → h'.1 1 k = h.1 1 k) ∧ (∀ k, k < 2 → h'.1 2 k = h.1 2 k)
theorem frE.rd {h h' : gH} {t : Nat} (a : frE h h' t) : rdE h h' t := ⟨a.1, a.2.1, a.2.2.1, fun k hk => a.2.2.2.1 k (by omega), fun k hk => a.2.2.2.2 k (by omega)⟩
theorem rdE.tr {h h1 h2 : gH} {t : Nat} (a : rdE h h1 t) (b : rdE h1 h2 t) : rdE h h2 t := ⟨b.1.trans a.1, fun o o1 o2 o5 ot => (b.2.1 o o1 o2 o5 ot).trans (a.2.1 o o1 o2 o5 ot), fun o o2 o4 => (b.2.2.1 o o2 o4).trans (a.2.2.1 o o2 o4), fun k hk => (b.2.2.2.1 k hk).trans (a.2.2.2.1 k hk), fun k hk => (b.2.2.2.2 k hk).trans (a.2.2.2.2 k hk)⟩
def rdI (h hp : gH) (B : Nat → Nat) (e t : Nat) (r : Nat × Nat × (Nat → Nat)) : Prop := rdE h hp t ∧ (r.1 = 0 → LI hp B e r.2.1 t r.2.2) ∧ (r.1 ≠ 0 → hp.1 1 6 = (r.1 : Int) ∧ hp.1 1 7 = (r.2.1 : Int))
/-- what each sound line leaves -/
def tlS (B : Nat → Nat) (e i : Nat) : Prop := ∀ j, j ≤ i → (rdS B e j).1 = 0 → TL (rdS B e j).2.2 ∧ NU (rdS B e j).2.2
theorem tlS.up {B : Nat → Nat} {e i : Nat} (a : tlS B e i) (b : (rdS B e (i + 1)).1 = 0 → TL (rdS B e (i + 1)).2.2 ∧ NU (rdS B e (i + 1)).2.2) : tlS B e (i + 1) := fun j hj g => by
  rcases Nat.lt_or_ge j (i + 1) with q | q
  · exact a j (by omega) g
  · have : j = i + 1 := by omega
    subst this
    exact b g
theorem tlS.end {B : Nat → Nat} {e i : Nat} (a : tlS B e i) (z : ¬ ((rdS B e i).1 = 0 ∧ tSr B e (rdS B e i).2.1 = 3)) (n : Nat) : tlS B e n := fun j _ g => by
  rcases Nat.lt_or_ge i j with q | q
  · have := rdS_f z (j - i)
    rw [show i + (j - i) = j by omega] at this
    rw [this] at g ⊢
    exact a i (Nat.le_refl i) g
  · exact a j q g
theorem TL_0 : TL (fun _ => 0) := by
  refine ⟨⟨by decide, by decide, by decide, by decide, by decide, by decide, by decide⟩, fun n hn => absurd hn (Nat.not_lt_zero n), fun n hn => absurd hn (Nat.not_lt_zero n), fun n hn => absurd hn (Nat.not_lt_zero n), fun n hn => absurd hn (Nat.not_lt_zero n), fun n _ => ⟨fun z => absurd rfl z, fun z => ?_⟩⟩
  have z : n < 0 ∨ (6 ≤ n ∧ n < 6 + 0) ∨ (13 ≤ n ∧ n < 13 + 0) := z
  omega
theorem NU_0 : NU (fun _ => 0) := ⟨fun n _ => ⟨Nat.zero_le _, fun k hk => absurd hk (Nat.not_lt_zero k)⟩, fun n n' _ _ z => absurd rfl z⟩
theorem s_read {h : gH} {B : Nat → Nat} {n t : Nat} (ht : isT t) (hD : h.2.2 1 = t) (hn : n ≤ 900) (hB : ∀ j, j < n → B j < 256 ∧ h.1 3 j = sb8 (B j : Int)) : gSp 12 yX4_read cX4_read 4 (some .boolean) [.ref 1, .int (zI (n : Int))] h (fun v h' => v = some (.int (zI (bI (decide ((rdR B n).1 = 0))))) ∧ rdE h h' t ∧ h'.1 1 6 = ((rdR B n).1 : Int) ∧ ((rdR B n).1 ≠ 0 → h'.1 1 7 = ((rdR B n).2.1 : Int)) ∧ ((rdR B n).1 = 0 → TV (rdR B n).2.2 ∧ TownA h' t (rdR B n).2.2 ∧ TownB h' t (rdR B n).2.2 ∧ StrI h' t (rdR B n).2.2) ∧ tlS B n 900) := by
  have htt : t = 6 ∨ t = 29 := ht
  obtain ⟨t0, -⟩ := shT ht
  have hr : rdR B n = if (rdS B n 900).1 ≠ 0 then rdS B n 900 else if tSr B n (rdS B n 900).2.1 ≠ 0 then (1, tS B n (rdS B n 900).2.1, fun _ => 0) else if (rdS B n 900).2.2 3 < 2 then (6, tS B n (rdS B n 900).2.1, fun _ => 0) else rdS B n 900 := rfl
  refine gSp_of (by decide +kernel) (Nat.le_of_ble_eq_true rfl) ?_
  show gJ RX4 cX4_read 4 (some .boolean) _ 0 [some (.ref 1), some (.int (zI (n : Int))), none, none] [] _ _
  refine gj_aload_n (pc' := 1) dX4_read_0 rfl rfl ?_
  refine gj_iconst (pc' := 2) dX4_read_1 rfl ?_
  refine gp_X4_35 (pc' := 5) dX4_read_2 rfl (by first | rfl | assumption) rfl ?_
  refine gj_aload_n (pc' := 6) dX4_read_5 rfl rfl ?_
  refine gj_iconst (pc' := 7) dX4_read_6 rfl ?_
  refine gp_X4_39 (pc' := 10) dX4_read_7 rfl (by first | rfl | assumption) rfl ?_
  refine gj_aload_n (pc' := 11) dX4_read_10 rfl rfl ?_
  refine gj_iconst (pc' := 12) dX4_read_11 rfl ?_
  refine gp_X4_42 (pc' := 15) dX4_read_12 rfl (by first | rfl | assumption) rfl ?_
  refine gj_aload_n (pc' := 16) dX4_read_15 rfl rfl ?_
  refine gj_iconst (pc' := 17) dX4_read_16 rfl ?_
  refine gp_X4_45 (pc' := 20) dX4_read_17 rfl (by first | exact Or.inl rfl | exact Or.inr rfl | assumption) (by first | rfl | assumption) rfl ?_
  obtain ⟨hv, hhv⟩ : ∃ x, x = gui (gui (gui (gui h 1 6 0) 1 7 0) 1 3 0) 1 4 0 := ⟨_, rfl⟩
  rw [← hhv]
  have v2 : hv.2 = h.2 := by rw [hhv]; rfl
  have v1 : ∀ o, o ≠ 1 → hv.1 o = h.1 o := fun o ho => by rw [hhv, gui_n ho, gui_n ho, gui_n ho, gui_n ho]
  have v6 : hv.1 1 6 = 0 := by rw [hhv]; rfl
  have v3 : hv.1 1 3 = 0 := by rw [hhv]; rfl
  have v4 : hv.1 1 4 = 0 := by rw [hhv]; rfl
  have vk : ∀ k, k < 3 → hv.1 1 k = h.1 1 k := fun k hk => by
    rw [hhv, gui_s, up1_n (by omega), gui_s, up1_n (by omega), gui_s, up1_n (by omega), gui_s, up1_n (by omega)]
  have hDv : hv.2.2 1 = t := by rw [v2]; exact hD
  clear hhv
  refine gj_aload_n (pc' := 21) dX4_read_20 rfl rfl ?_
  refine gf_X4_31 (pc' := 24) dX4_read_21 rfl (by first | rfl | assumption) rfl ?_
  rw [hDv]
  refine gc_X4_49 (pc' := 27) dX4_read_24 rfl (s_clear ht) rfl t0 (by decide) rfl (Nat.le_of_ble_eq_true rfl) (fun v9 h9 q9 => ?_)
  obtain ⟨rfl, k1, k2, k3, k4⟩ := q9
  obtain ⟨hc, rfl⟩ : ∃ x, x = h9 := ⟨h9, rfl⟩
  show gJ _ _ _ _ _ _ _ [] _ _
  refine gj_aload_n (pc' := 28) dX4_read_27 rfl rfl ?_
  refine gf_X4_16 (pc' := 31) dX4_read_28 rfl (by first | rfl | assumption) rfl ?_
  refine gj_iload_n (pc' := 32) dX4_read_31 rfl rfl ?_
  refine gc_X4_52 (pc' := 35) dX4_read_32 rfl (s_begin8 (B := B) hn (by rw [k2 1 (by omega) (by omega)]; exact v6) (fun j hj => by rw [k2 3 (by omega) (by omega), v1 3 (by decide)]; exact hB j hj)) rfl (by first | rfl | assumption) (by decide) rfl (Nat.le_of_ble_eq_true rfl) (fun v9 h9 q9 => ?_)
  obtain ⟨rfl, b1, b2, b3, b4⟩ := q9
  obtain ⟨hb, rfl⟩ : ∃ x, x = h9 := ⟨h9, rfl⟩
  have hbe : rdE h hb t := ⟨by rw [b1, k1, v2], fun o o1 o2 o5 ot => by rw [(b2 o o2).1, k2 o (by omega) (by omega), v1 o o1], fun o o2 o4 => by rw [(b2 o o2).2, k1, v2], fun k hk => by rw [(b2 1 (by decide)).1, k2 1 (by omega) (by omega)]; exact vk k hk, fun k hk => by rw [b3 k hk, k2 2 (by omega) (by omega), v1 2 (by decide)]⟩
  have hDb : hb.2.2 1 = t := by rw [hbe.1]; exact hD
  have hI0 : LI hb B n 0 t (fun _ => 0) := by
    refine ⟨b4, ⟨0, fun _ => 0, ?_, fun i hi => absurd hi (Nat.not_lt_zero i), fun n _ z => absurd rfl z, fun i j hi => absurd hi (Nat.not_lt_zero i)⟩, NU_0, k3.to (fun o o1 o2 => (b2 o (by omega)).1), k4.to (by rw [(b2 _ (by omega)).1]) (by rw [(b2 _ (by omega)).1]) (b2 _ (by omega)).1 (b2 _ (by omega)).1 (b2 _ (by omega)).1 (b2 _ (by omega)).1 (b2 _ (by omega)).1, hDb, ?_, TL_0⟩
    · rw [(b2 1 (by decide)).1, k2 1 (by omega) (by omega), v3]; rfl
    · rw [(b2 1 (by decide)).1, k2 1 (by omega) (by omega), v4]; rfl
  show gJ _ _ _ _ _ _ _ [] _ _
  refine gj_aload_n (pc' := 36) dX4_read_35 rfl rfl ?_
  refine gc_X4_56 (pc' := 39) dX4_read_36 rfl (s_readLine ht hI0) rfl (by first | rfl | assumption) (by decide) rfl (Nat.le_of_ble_eq_true rfl) (fun v9 h9 q9 => ?_)
  obtain ⟨rfl, q1, q2, q3⟩ := q9
  obtain ⟨hf, rfl⟩ : ∃ x, x = h9 := ⟨h9, rfl⟩
  show gJ _ _ _ _ _ _ _ [.int (zI (bI (decide ((rdS B n 0).1 = 0))))] _ _
  refine gj_istore_n (pc' := 40) dX4_read_39 rfl (by decide) ?_
  refine gj_iconst (pc' := 41) dX4_read_40 rfl ?_
  refine gj_istore_n (pc' := 42) dX4_read_41 rfl (by decide) ?_
  refine gJ_wk (gJ_fH0 (L := fun i  => [some (.ref 1), some (.int (zI (n : Int))), some (.int (zI (bI (decide ((rdS B n i).1 = 0))))), some (.int (zI (i : Int)))]) (I := fun i  hp => rdI h hp B n t (rdS B n i) ∧ tlS B n i) (900) (fun i  hp hb_i iv_i ih_i => ?step_1) (0) (Nat.zero_le _)  _ ?iv0_1) ?ll0_1
  case ll0_1 =>
    repeat' (first | exact True.intro | with_reducible exact rfl | refine And.intro ?_ ?_ | refine vI ?_ | refine vL ?_)
    all_goals first | rfl | omega
  case iv0_1 =>
    exact ⟨⟨hbe.tr q1.rd, q2, q3⟩, fun j hj g => by
      have : j = 0 := by omega
      subst this
      have hz := q2 g
      exact ⟨hz.2.2.2.2.2.2.2, hz.2.2.1⟩⟩
  obtain ⟨⟨i1, i2, i3⟩, i4⟩ := iv_i
  have hsr := tSr_le B n (rdS B n i).2.1
  refine gj_iload_n (pc' := 43) dX4_read_42 rfl rfl ?_
  refine gj_sipush (pc' := 46) dX4_read_43 rfl (by decide) ?_
  refine gj_icmp_ge (pc' := 49) (tgt := 82) dX4_read_46 (by decide) rfl (by omega) (fun c46 => ?_) (fun c46 => ?_)
  · have hF : rdS B n 900 = rdS B n i := by
      by_cases z : (rdS B n i).1 = 0 ∧ tSr B n (rdS B n i).2.1 = 3
      · have : i = 900 := by omega
        rw [this]
      · exact rdS_end hb_i z
    have hTN : tlS B n 900 := by
      by_cases z : (rdS B n i).1 = 0 ∧ tSr B n (rdS B n i).2.1 = 3
      · have : i = 900 := by omega
        rw [← this]
        exact i4
      · exact i4.end z 900
    rw [hF] at hr
    refine gj_iload_n (pc' := 83) dX4_read_82 rfl rfl ?_
    first | refine gj_ifB_ne (pc' := 86) (tgt := 88) dX4_read_83 (by decide) rfl (fun c83 => ?_) (fun c83 => ?_) | refine gj_if_ne (pc' := 86) (tgt := 88) dX4_read_83 (by decide) rfl (by omega) (fun c83 => ?_) (fun c83 => ?_)
    · first | have g83 := of_decide_eq_true c83 | have g83 := of_decide_eq_false c83 | skip
      have hM := i2 g83
      have hM5 := hM.1.2.2.2.2.1
      have hgo := rdS_go i g83
      rw [if_neg (fun z => z g83)] at hr
      refine gj_aload_n (pc' := 89) dX4_read_88 rfl rfl ?_
      refine gf_X4_16 (pc' := 92) dX4_read_89 rfl (by first | rfl | assumption) rfl ?_
      refine gf_X4_60 (pc' := 95) dX4_read_92 rfl (by first | rfl | assumption) rfl ?_
      rw [hM5]
      first | refine gj_ifB_eq (pc' := 98) (tgt := 104) dX4_read_95 (by decide) rfl (fun c95 => ?_) (fun c95 => ?_) | refine gj_if_eq (pc' := 98) (tgt := 104) dX4_read_95 (by decide) rfl (by omega) (fun c95 => ?_) (fun c95 => ?_)
      · first | have g95 := of_decide_eq_true c95 | have g95 := of_decide_eq_false c95 | skip
        rw [if_neg (by omega)] at hr
        obtain ⟨-, -, -, hTA, hSA, hDm, -, hTL⟩ := id hM
        have hb36 := hTL.1.2.2.2.1
        refine gj_aload_n (pc' := 105) dX4_read_104 rfl rfl ?_
        refine gf_X4_31 (pc' := 108) dX4_read_105 rfl (by first | rfl | assumption) rfl ?_
        rw [hDm]
        refine gf_X4_70 (pc' := 111) dX4_read_108 rfl t0 rfl ?_
        rw [hTA.1 3 (by decide)]
        refine gj_iconst (pc' := 112) dX4_read_111 rfl ?_
        refine gj_icmp_ge (pc' := 115) (tgt := 122) dX4_read_112 (by decide) rfl (by omega) (fun c112 => ?_) (fun c112 => ?_)
        · rw [if_neg (by omega)] at hr
          have hTV := hTL.tv hgo.2.1 (by omega)
          refine gj_aload_n (pc' := 123) dX4_read_122 rfl rfl ?_
          refine gf_X4_31 (pc' := 126) dX4_read_123 rfl (by first | rfl | assumption) rfl ?_
          rw [hDm]
          refine gc_X4_73 (pc' := 129) dX4_read_126 rfl (s_settle ht hTV hTA hSA) rfl t0 (by decide) rfl (Nat.le_of_ble_eq_true rfl) (fun v9 h9 q9 => ?_)
          obtain ⟨rfl, y1, y2, y3, y4, y5, y6, y7, y8⟩ := q9
          obtain ⟨hy, rfl⟩ : ∃ x, x = h9 := ⟨h9, rfl⟩
          show gJ _ _ _ _ _ _ _ [] _ _
          refine gj_iconst (pc' := 130) dX4_read_129 rfl ?_
          refine gj_zret rfl (by first | rfl | exact gnZ _ | assumption) dX4_read_130 ?_
          rw [hr]
          refine ⟨by rw [decide_eq_true g83]; rfl, i1.tr ⟨by rw [y1], fun o _ _ _ ot => y2 o (by omega), fun o _ _ => by rw [y1], fun k _ => by rw [y2 1 (by omega)], fun k _ => by rw [y2 2 (by omega)]⟩, ?_, fun z => absurd g83 z, fun _ => ⟨hTV, y3, y4, y5, y6, y7, y8⟩, hTN⟩
          rw [y2 1 (by omega), g83]
          exact hM.1.1.1.2
        · refine gj_aload_n (pc' := 116) dX4_read_115 rfl rfl ?_
          refine gj_bipush (pc' := 118) dX4_read_116 rfl (by decide) ?_
          refine gc_X4_66 (pc' := 121) dX4_read_118 rfl (s_fail (k := 6) hM.1.2.2.1) rfl (by first | rfl | assumption) (by decide) rfl (Nat.le_of_ble_eq_true rfl) (fun v9 h9 q9 => ?_)
          obtain ⟨rfl, f1, f2, f3⟩ := q9
          show gJ _ _ _ _ _ _ _ [.int (zI 0)] _ _
          refine gj_zret rfl (by first | rfl | exact gnZ _ | assumption) dX4_read_121 ?_
          rw [if_pos (by omega)] at hr
          rw [hr]
          exact ⟨rfl, i1.tr (f1.fr t).rd, f2, fun _ => f3, fun z => absurd (show (6 : Nat) = 0 from z) (by decide), hTN⟩
      · first | have g95 := of_decide_eq_true c95 | have g95 := of_decide_eq_false c95 | skip
        refine gj_aload_n (pc' := 99) dX4_read_98 rfl rfl ?_
        refine gj_iconst (pc' := 100) dX4_read_99 rfl ?_
        refine gc_X4_66 (pc' := 103) dX4_read_100 rfl (s_fail (k := 1) hM.1.2.2.1) rfl (by first | rfl | assumption) (by decide) rfl (Nat.le_of_ble_eq_true rfl) (fun v9 h9 q9 => ?_)
        obtain ⟨rfl, f1, f2, f3⟩ := q9
        show gJ _ _ _ _ _ _ _ [.int (zI 0)] _ _
        refine gj_zret rfl (by first | rfl | exact gnZ _ | assumption) dX4_read_103 ?_
        rw [if_pos (by omega)] at hr
        rw [hr]
        exact ⟨rfl, i1.tr (f1.fr t).rd, f2, fun _ => f3, fun z => absurd (show (1 : Nat) = 0 from z) (by decide), hTN⟩
    · first | have g83 := of_decide_eq_true c83 | have g83 := of_decide_eq_false c83 | skip
      refine gj_iconst (pc' := 87) dX4_read_86 rfl ?_
      refine gj_zret rfl (by first | rfl | exact gnZ _ | assumption) dX4_read_87 ?_
      rw [if_pos g83] at hr
      rw [hr]
      exact ⟨by rw [decide_eq_false g83]; rfl, i1, (i3 g83).1, fun _ => (i3 g83).2, fun z => absurd z g83, hTN⟩
  · refine gj_iload_n (pc' := 50) dX4_read_49 rfl rfl ?_
    first | refine gj_ifB_eq (pc' := 53) (tgt := 82) dX4_read_50 (by decide) rfl (fun c50 => ?_) (fun c50 => ?_) | refine gj_if_eq (pc' := 53) (tgt := 82) dX4_read_50 (by decide) rfl (by omega) (fun c50 => ?_) (fun c50 => ?_)
    · first | have g50 := of_decide_eq_true c50 | have g50 := of_decide_eq_false c50 | skip
      have hF : rdS B n 900 = rdS B n i := by
        by_cases z : (rdS B n i).1 = 0 ∧ tSr B n (rdS B n i).2.1 = 3
        · have : i = 900 := by omega
          rw [this]
        · exact rdS_end hb_i z
      have hTN : tlS B n 900 := by
        by_cases z : (rdS B n i).1 = 0 ∧ tSr B n (rdS B n i).2.1 = 3
        · have : i = 900 := by omega
          rw [← this]
          exact i4
        · exact i4.end z 900
      rw [hF] at hr
      refine gj_iload_n (pc' := 83) dX4_read_82 rfl rfl ?_
      first | refine gj_ifB_ne (pc' := 86) (tgt := 88) dX4_read_83 (by decide) rfl (fun c83 => ?_) (fun c83 => ?_) | refine gj_if_ne (pc' := 86) (tgt := 88) dX4_read_83 (by decide) rfl (by omega) (fun c83 => ?_) (fun c83 => ?_)
      · first | have g83 := of_decide_eq_true c83 | have g83 := of_decide_eq_false c83 | skip
        have hM := i2 g83
        have hM5 := hM.1.2.2.2.2.1
        have hgo := rdS_go i g83
        rw [if_neg (fun z => z g83)] at hr
        refine gj_aload_n (pc' := 89) dX4_read_88 rfl rfl ?_
        refine gf_X4_16 (pc' := 92) dX4_read_89 rfl (by first | rfl | assumption) rfl ?_
        refine gf_X4_60 (pc' := 95) dX4_read_92 rfl (by first | rfl | assumption) rfl ?_
        rw [hM5]
        first | refine gj_ifB_eq (pc' := 98) (tgt := 104) dX4_read_95 (by decide) rfl (fun c95 => ?_) (fun c95 => ?_) | refine gj_if_eq (pc' := 98) (tgt := 104) dX4_read_95 (by decide) rfl (by omega) (fun c95 => ?_) (fun c95 => ?_)
        · first | have g95 := of_decide_eq_true c95 | have g95 := of_decide_eq_false c95 | skip
          rw [if_neg (by omega)] at hr
          obtain ⟨-, -, -, hTA, hSA, hDm, -, hTL⟩ := id hM
          have hb36 := hTL.1.2.2.2.1
          refine gj_aload_n (pc' := 105) dX4_read_104 rfl rfl ?_
          refine gf_X4_31 (pc' := 108) dX4_read_105 rfl (by first | rfl | assumption) rfl ?_
          rw [hDm]
          refine gf_X4_70 (pc' := 111) dX4_read_108 rfl t0 rfl ?_
          rw [hTA.1 3 (by decide)]
          refine gj_iconst (pc' := 112) dX4_read_111 rfl ?_
          refine gj_icmp_ge (pc' := 115) (tgt := 122) dX4_read_112 (by decide) rfl (by omega) (fun c112 => ?_) (fun c112 => ?_)
          · rw [if_neg (by omega)] at hr
            have hTV := hTL.tv hgo.2.1 (by omega)
            refine gj_aload_n (pc' := 123) dX4_read_122 rfl rfl ?_
            refine gf_X4_31 (pc' := 126) dX4_read_123 rfl (by first | rfl | assumption) rfl ?_
            rw [hDm]
            refine gc_X4_73 (pc' := 129) dX4_read_126 rfl (s_settle ht hTV hTA hSA) rfl t0 (by decide) rfl (Nat.le_of_ble_eq_true rfl) (fun v9 h9 q9 => ?_)
            obtain ⟨rfl, y1, y2, y3, y4, y5, y6, y7, y8⟩ := q9
            obtain ⟨hy, rfl⟩ : ∃ x, x = h9 := ⟨h9, rfl⟩
            show gJ _ _ _ _ _ _ _ [] _ _
            refine gj_iconst (pc' := 130) dX4_read_129 rfl ?_
            refine gj_zret rfl (by first | rfl | exact gnZ _ | assumption) dX4_read_130 ?_
            rw [hr]
            refine ⟨by rw [decide_eq_true g83]; rfl, i1.tr ⟨by rw [y1], fun o _ _ _ ot => y2 o (by omega), fun o _ _ => by rw [y1], fun k _ => by rw [y2 1 (by omega)], fun k _ => by rw [y2 2 (by omega)]⟩, ?_, fun z => absurd g83 z, fun _ => ⟨hTV, y3, y4, y5, y6, y7, y8⟩, hTN⟩
            rw [y2 1 (by omega), g83]
            exact hM.1.1.1.2
          · refine gj_aload_n (pc' := 116) dX4_read_115 rfl rfl ?_
            refine gj_bipush (pc' := 118) dX4_read_116 rfl (by decide) ?_
            refine gc_X4_66 (pc' := 121) dX4_read_118 rfl (s_fail (k := 6) hM.1.2.2.1) rfl (by first | rfl | assumption) (by decide) rfl (Nat.le_of_ble_eq_true rfl) (fun v9 h9 q9 => ?_)
            obtain ⟨rfl, f1, f2, f3⟩ := q9
            show gJ _ _ _ _ _ _ _ [.int (zI 0)] _ _
            refine gj_zret rfl (by first | rfl | exact gnZ _ | assumption) dX4_read_121 ?_
            rw [if_pos (by omega)] at hr
            rw [hr]
            exact ⟨rfl, i1.tr (f1.fr t).rd, f2, fun _ => f3, fun z => absurd (show (6 : Nat) = 0 from z) (by decide), hTN⟩
        · first | have g95 := of_decide_eq_true c95 | have g95 := of_decide_eq_false c95 | skip
          refine gj_aload_n (pc' := 99) dX4_read_98 rfl rfl ?_
          refine gj_iconst (pc' := 100) dX4_read_99 rfl ?_
          refine gc_X4_66 (pc' := 103) dX4_read_100 rfl (s_fail (k := 1) hM.1.2.2.1) rfl (by first | rfl | assumption) (by decide) rfl (Nat.le_of_ble_eq_true rfl) (fun v9 h9 q9 => ?_)
          obtain ⟨rfl, f1, f2, f3⟩ := q9
          show gJ _ _ _ _ _ _ _ [.int (zI 0)] _ _
          refine gj_zret rfl (by first | rfl | exact gnZ _ | assumption) dX4_read_103 ?_
          rw [if_pos (by omega)] at hr
          rw [hr]
          exact ⟨rfl, i1.tr (f1.fr t).rd, f2, fun _ => f3, fun z => absurd (show (1 : Nat) = 0 from z) (by decide), hTN⟩
      · first | have g83 := of_decide_eq_true c83 | have g83 := of_decide_eq_false c83 | skip
        refine gj_iconst (pc' := 87) dX4_read_86 rfl ?_
        refine gj_zret rfl (by first | rfl | exact gnZ _ | assumption) dX4_read_87 ?_
        rw [if_pos g83] at hr
        rw [hr]
        exact ⟨by rw [decide_eq_false g83]; rfl, i1, (i3 g83).1, fun _ => (i3 g83).2, fun z => absurd z g83, hTN⟩
    · first | have g50 := of_decide_eq_true c50 | have g50 := of_decide_eq_false c50 | skip
      have hL := i2 g50
      have h5 := hL.1.2.2.2.2.1
      refine gj_aload_n (pc' := 54) dX4_read_53 rfl rfl ?_
      refine gf_X4_16 (pc' := 57) dX4_read_54 rfl (by first | rfl | assumption) rfl ?_
      refine gf_X4_60 (pc' := 60) dX4_read_57 rfl (by first | rfl | assumption) rfl ?_
      rw [h5]
      refine gj_iconst (pc' := 61) dX4_read_60 rfl ?_
      refine gj_icmp_ne (pc' := 64) (tgt := 82) dX4_read_61 (by decide) rfl (by omega) (fun c61 => ?_) (fun c61 => ?_)
      · have hF : rdS B n 900 = rdS B n i := by
          by_cases z : (rdS B n i).1 = 0 ∧ tSr B n (rdS B n i).2.1 = 3
          · have : i = 900 := by omega
            rw [this]
          · exact rdS_end hb_i z
        have hTN : tlS B n 900 := by
          by_cases z : (rdS B n i).1 = 0 ∧ tSr B n (rdS B n i).2.1 = 3
          · have : i = 900 := by omega
            rw [← this]
            exact i4
          · exact i4.end z 900
        rw [hF] at hr
        refine gj_iload_n (pc' := 83) dX4_read_82 rfl rfl ?_
        first | refine gj_ifB_ne (pc' := 86) (tgt := 88) dX4_read_83 (by decide) rfl (fun c83 => ?_) (fun c83 => ?_) | refine gj_if_ne (pc' := 86) (tgt := 88) dX4_read_83 (by decide) rfl (by omega) (fun c83 => ?_) (fun c83 => ?_)
        · first | have g83 := of_decide_eq_true c83 | have g83 := of_decide_eq_false c83 | skip
          have hM := i2 g83
          have hM5 := hM.1.2.2.2.2.1
          have hgo := rdS_go i g83
          rw [if_neg (fun z => z g83)] at hr
          refine gj_aload_n (pc' := 89) dX4_read_88 rfl rfl ?_
          refine gf_X4_16 (pc' := 92) dX4_read_89 rfl (by first | rfl | assumption) rfl ?_
          refine gf_X4_60 (pc' := 95) dX4_read_92 rfl (by first | rfl | assumption) rfl ?_
          rw [hM5]
          first | refine gj_ifB_eq (pc' := 98) (tgt := 104) dX4_read_95 (by decide) rfl (fun c95 => ?_) (fun c95 => ?_) | refine gj_if_eq (pc' := 98) (tgt := 104) dX4_read_95 (by decide) rfl (by omega) (fun c95 => ?_) (fun c95 => ?_)
          · first | have g95 := of_decide_eq_true c95 | have g95 := of_decide_eq_false c95 | skip
            rw [if_neg (by omega)] at hr
            obtain ⟨-, -, -, hTA, hSA, hDm, -, hTL⟩ := id hM
            have hb36 := hTL.1.2.2.2.1
            refine gj_aload_n (pc' := 105) dX4_read_104 rfl rfl ?_
            refine gf_X4_31 (pc' := 108) dX4_read_105 rfl (by first | rfl | assumption) rfl ?_
            rw [hDm]
            refine gf_X4_70 (pc' := 111) dX4_read_108 rfl t0 rfl ?_
            rw [hTA.1 3 (by decide)]
            refine gj_iconst (pc' := 112) dX4_read_111 rfl ?_
            refine gj_icmp_ge (pc' := 115) (tgt := 122) dX4_read_112 (by decide) rfl (by omega) (fun c112 => ?_) (fun c112 => ?_)
            · rw [if_neg (by omega)] at hr
              have hTV := hTL.tv hgo.2.1 (by omega)
              refine gj_aload_n (pc' := 123) dX4_read_122 rfl rfl ?_
              refine gf_X4_31 (pc' := 126) dX4_read_123 rfl (by first | rfl | assumption) rfl ?_
              rw [hDm]
              refine gc_X4_73 (pc' := 129) dX4_read_126 rfl (s_settle ht hTV hTA hSA) rfl t0 (by decide) rfl (Nat.le_of_ble_eq_true rfl) (fun v9 h9 q9 => ?_)
              obtain ⟨rfl, y1, y2, y3, y4, y5, y6, y7, y8⟩ := q9
              obtain ⟨hy, rfl⟩ : ∃ x, x = h9 := ⟨h9, rfl⟩
              show gJ _ _ _ _ _ _ _ [] _ _
              refine gj_iconst (pc' := 130) dX4_read_129 rfl ?_
              refine gj_zret rfl (by first | rfl | exact gnZ _ | assumption) dX4_read_130 ?_
              rw [hr]
              refine ⟨by rw [decide_eq_true g83]; rfl, i1.tr ⟨by rw [y1], fun o _ _ _ ot => y2 o (by omega), fun o _ _ => by rw [y1], fun k _ => by rw [y2 1 (by omega)], fun k _ => by rw [y2 2 (by omega)]⟩, ?_, fun z => absurd g83 z, fun _ => ⟨hTV, y3, y4, y5, y6, y7, y8⟩, hTN⟩
              rw [y2 1 (by omega), g83]
              exact hM.1.1.1.2
            · refine gj_aload_n (pc' := 116) dX4_read_115 rfl rfl ?_
              refine gj_bipush (pc' := 118) dX4_read_116 rfl (by decide) ?_
              refine gc_X4_66 (pc' := 121) dX4_read_118 rfl (s_fail (k := 6) hM.1.2.2.1) rfl (by first | rfl | assumption) (by decide) rfl (Nat.le_of_ble_eq_true rfl) (fun v9 h9 q9 => ?_)
              obtain ⟨rfl, f1, f2, f3⟩ := q9
              show gJ _ _ _ _ _ _ _ [.int (zI 0)] _ _
              refine gj_zret rfl (by first | rfl | exact gnZ _ | assumption) dX4_read_121 ?_
              rw [if_pos (by omega)] at hr
              rw [hr]
              exact ⟨rfl, i1.tr (f1.fr t).rd, f2, fun _ => f3, fun z => absurd (show (6 : Nat) = 0 from z) (by decide), hTN⟩
          · first | have g95 := of_decide_eq_true c95 | have g95 := of_decide_eq_false c95 | skip
            refine gj_aload_n (pc' := 99) dX4_read_98 rfl rfl ?_
            refine gj_iconst (pc' := 100) dX4_read_99 rfl ?_
            refine gc_X4_66 (pc' := 103) dX4_read_100 rfl (s_fail (k := 1) hM.1.2.2.1) rfl (by first | rfl | assumption) (by decide) rfl (Nat.le_of_ble_eq_true rfl) (fun v9 h9 q9 => ?_)
            obtain ⟨rfl, f1, f2, f3⟩ := q9
            show gJ _ _ _ _ _ _ _ [.int (zI 0)] _ _
            refine gj_zret rfl (by first | rfl | exact gnZ _ | assumption) dX4_read_103 ?_
            rw [if_pos (by omega)] at hr
            rw [hr]
            exact ⟨rfl, i1.tr (f1.fr t).rd, f2, fun _ => f3, fun z => absurd (show (1 : Nat) = 0 from z) (by decide), hTN⟩
        · first | have g83 := of_decide_eq_true c83 | have g83 := of_decide_eq_false c83 | skip
          refine gj_iconst (pc' := 87) dX4_read_86 rfl ?_
          refine gj_zret rfl (by first | rfl | exact gnZ _ | assumption) dX4_read_87 ?_
          rw [if_pos g83] at hr
          rw [hr]
          exact ⟨by rw [decide_eq_false g83]; rfl, i1, (i3 g83).1, fun _ => (i3 g83).2, fun z => absurd z g83, hTN⟩
      · refine gj_aload_n (pc' := 65) dX4_read_64 rfl rfl ?_
        refine gf_X4_16 (pc' := 68) dX4_read_65 rfl (by first | rfl | assumption) rfl ?_
        refine gc_X4_63 (pc' := 71) dX4_read_68 rfl (s_stepT hL.1) rfl (by first | rfl | assumption) (by decide) rfl (Nat.le_of_ble_eq_true rfl) (fun v9 h9 q9 => ?_)
        obtain ⟨rfl, u1, u2⟩ := q9
        obtain ⟨hs, rfl⟩ : ∃ x, x = h9 := ⟨h9, rfl⟩
        have hL2 := hL.st ht u1 u2
        show gJ _ _ _ _ _ _ _ [] _ _
        refine gj_aload_n (pc' := 72) dX4_read_71 rfl rfl ?_
        refine gc_X4_56 (pc' := 75) dX4_read_72 rfl (s_readLine ht hL2) rfl (by first | rfl | assumption) (by decide) rfl (Nat.le_of_ble_eq_true rfl) (fun v9 h9 q9 => ?_)
        obtain ⟨rfl, w1, w2, w3⟩ := q9
        obtain ⟨hw, rfl⟩ : ∃ x, x = h9 := ⟨h9, rfl⟩
        have hst : rdS B n (i + 1) = ptL B n (rdS B n i).2.2 (tEn B n (rdS B n i).2.1) := rdS_t ⟨g50, by omega⟩
        rw [← hst] at w2 w3 ⊢
        show gJ _ _ _ _ _ _ _ [.int (zI (bI (decide ((rdS B n (i + 1)).1 = 0))))] _ _
        refine gj_istore_n (pc' := 76) dX4_read_75 rfl (by decide) ?_
        refine gj_iinc (pc' := 79) dX4_read_76 rfl rfl (by decide) ?_
        refine gj_goto (pc' := 42) dX4_read_79 (by decide) ?_
        refine gJ_wk (ih_i  _ (by omega) ?iv_2) ?ll_2
        case ll_2 =>
          repeat' (first | exact True.intro | with_reducible exact rfl | refine And.intro ?_ ?_ | refine vI ?_ | refine vL ?_)
          all_goals omega
        refine ⟨⟨i1.tr (⟨u1.1, fun o _ o2 _ _ => (u1.2.1 o o2).1, fun o o2 _ => (u1.2.1 o o2).2, fun k _ => by rw [(u1.2.1 1 (by decide)).1], fun k hk => u1.2.2 k (by omega)⟩ : rdE hp hs t) |>.tr w1.rd, w2, w3⟩, i4.up (fun g => ?_)⟩
        have hz := w2 g
        exact ⟨hz.2.2.2.2.2.2.2, hz.2.2.1⟩
