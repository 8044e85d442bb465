/-! strays: the face of the model -/
theorem SF_rows {T : Nat → Nat} (P : Nat → Bool) : sN (fun x => (okF T x && P x).toNat) (NC T) = sN (fun i => (P (rwF T i)).toNat) (nR T) := by
  unfold nR
  rw [rw_sum (fun c => (P c).toNat) (NC T) (Nat.le_refl _)]
  refine sN_congr (fun c _ => ?_)
  show (okF T c && P c).toNat = (if okF T c = true then (P c).toNat else 0)
  cases okF T c <;> rfl
theorem sN_pos {p : Nat → Bool} {n : Nat} : 0 < sN (fun i => (p i).toNat) n ↔ anyN p n = true := by
  constructor
  · intro h
    cases q : anyN p n with
    | true => rfl
    | false =>
      exfalso
      have : sN (fun i => (p i).toNat) n = 0 := by
        rw [sN_congr (g := fun _ => 0) (fun i hi => by
          show (p i).toNat = 0
          cases z : p i with
          | false => rfl
          | true => rw [anyN_t.mpr ⟨i, hi, z⟩] at q; cases q)]
        exact sN_zero n
      omega
  · intro h
    obtain ⟨b, b1, b2⟩ := anyN_t.mp h
    have := sN_a1 (f := fun i => (p i).toNat) b1
    have e : (p b).toNat = 1 := by rw [b2]; rfl
    have e2 : (fun i => (p i).toNat) b = 1 := e
    omega
theorem sN_all {p : Nat → Bool} : ∀ {n : Nat}, sN (fun i => (p i).toNat) n = n ↔ ∀ i, i < n → p i = true
  | 0 => ⟨fun _ i hi => absurd hi (Nat.not_lt_zero i), fun _ => rfl⟩
  | n + 1 => by
    have ih := sN_all (p := p) (n := n)
    have hl := sN_le (f := fun i => (p i).toNat) (c := 1) (n := n) (fun i _ => Bool.toNat_le _)
    have hb := Bool.toNat_le (p n)
    show sN (fun i => (p i).toNat) n + (p n).toNat = n + 1 ↔ _
    constructor
    · intro h i hi
      by_cases q : i = n
      · rw [q]
        cases z : p n with
        | true => rfl
        | false =>
          exfalso
          rw [z] at h
          have e : false.toNat = 0 := rfl
          omega
      · exact ih.mp (by omega) i (by omega)
    · intro h
      rw [ih.mpr (fun i hi => h i (by omega)), h n (by omega)]
      rfl
/-- how many rows have a stray on a house -/
def cnF (T : Nat → Nat) (s k : Nat) : Nat := sN (fun x => (okF T x && (gDg (T 5) x s == k)).toNat) (NC T)
theorem cnF_rows (T : Nat → Nat) (s k : Nat) : cnF T s k = sN (fun i => (gDg (T 5) (rwF T i) s == k).toNat) (nR T) := SF_rows (fun x => gDg (T 5) x s == k)
theorem cnF_pos (T : Nat → Nat) (s k : Nat) : decide (0 < cnF T s k) = gsP T s (nR T) k := by
  rw [cnF_rows, Bool.eq_iff_iff, decide_eq_true_eq]
  exact sN_pos (p := fun i => gDg (T 5) (rwF T i) s == k)
theorem gsP_lt {T : Nat → Nat} {s k : Nat} (hs : s < T 5) (h : gsP T s (nR T) k = true) : k < T 3 := by
  obtain ⟨i, i1, i2⟩ := anyN_t.mp h
  have hr := (rwF_ok (T := T) i1).2.1
  unfold okF at hr
  rw [Bool.and_eq_true] at hr
  have := (okR_t.mp hr.1 s hs).1
  rw [beq_iff_eq] at i2
  omega
theorem gsN_eq {T : Nat → Nat} (h3 : T 3 ≤ 6) {s : Nat} (hs : s < T 5) : bN (fun k => decide (0 < cnF T s k)) (T 3) = gsN T s := by
  unfold gsN
  apply Nat.eq_of_testBit_eq
  intro i
  rw [bN_bit, bN_bit, cnF_pos]
  cases q : gsP T s (nR T) i with
  | false => simp
  | true =>
    have := gsP_lt hs q
    simp [this, show i < 8 by omega]
theorem pcN_8 {p : Nat → Bool} : pcN (bN p 8) = sN (fun k => (p k).toNat) 8 := pcN_bN p (Nat.le_refl 8)
theorem sN_two {p : Nat → Bool} {i j : Nat} : ∀ {n : Nat}, i < j → j < n → p i = true → p j = true → 2 ≤ sN (fun i => (p i).toNat) n
  | 0, _, h, _, _ => absurd h (Nat.not_lt_zero _)
  | n + 1, hij, hj, hi1, hj1 => by
    show 2 ≤ sN (fun i => (p i).toNat) n + (p n).toNat
    by_cases q : j = n
    · subst q
      have := sN_a1 (f := fun i => (p i).toNat) hij
      have e : (p i).toNat = 1 := by rw [hi1]; rfl
      have e2 : (fun i => (p i).toNat) i = 1 := e
      have e3 : (p j).toNat = 1 := by rw [hj1]; rfl
      omega
    · have := sN_two (n := n) hij (by omega) hi1 hj1
      omega
/-- the first house on which all rows have a stray -/
theorem su_eq {T : Nat → Nat} (h3 : T 3 ≤ 6) {s : Nat} (hs : s < T 5) : fstN (fun k => decide (0 < nR T) && decide (cnF T s k = nR T)) (T 3) = suF T s := by
  unfold suF
  by_cases h0 : nR T = 0
  · rw [if_pos (Or.inl h0)]
    exact fstN_no (fun k _ => by rw [decide_eq_false (by omega)]; rfl)
  · have hall : ∀ k, cnF T s k = nR T ↔ ∀ i, i < nR T → gDg (T 5) (rwF T i) s = k := fun k => by
      rw [cnF_rows, sN_all (p := fun i => gDg (T 5) (rwF T i) s == k)]
      constructor
      · intro h i hi; exact beq_iff_eq.mp (h i hi)
      · intro h i hi; exact beq_iff_eq.mpr (h i hi)
    have hg0 : gsP T s (nR T) (gDg (T 5) (rwF T 0) s) = true := anyN_t.mpr ⟨0, by omega, beq_self_eq_true _⟩
    have hg3 := gsP_lt hs hg0
    have hpc : pcN (gsN T s) = sN (fun k => (gsP T s (nR T) k).toNat) 8 := pcN_8
    rcases fstN_cs (p := fun k => decide (0 < nR T) && decide (cnF T s k = nR T)) (T 3) with ⟨e, hf⟩ | ⟨v, v1, e, v2, v3⟩
    · rw [e, if_pos]
      refine Or.inr (fun hp => ?_)
      rw [hp] at hpc
      have hne := hf _ hg3
      rw [decide_eq_true (show 0 < nR T by omega), Bool.true_and, decide_eq_false_iff_not] at hne
      apply hne
      rw [hall]
      intro i hi
      have hgi : gsP T s (nR T) (gDg (T 5) (rwF T i) s) = true := anyN_t.mpr ⟨i, hi, beq_self_eq_true _⟩
      have hi3 := gsP_lt hs hgi
      rcases Nat.lt_trichotomy (gDg (T 5) (rwF T i) s) (gDg (T 5) (rwF T 0) s) with q | q | q
      · have := sN_two (p := gsP T s (nR T)) (n := 8) q (by omega) hgi hg0
        omega
      · exact q
      · have := sN_two (p := gsP T s (nR T)) (n := 8) q (by omega) hg0 hgi
        omega
    · simp only [Bool.and_eq_true, decide_eq_true_eq] at v2
      have hv := (hall v).mp v2.2
      have h00 := hv 0 (by omega)
      rw [e, if_neg, h00]
      rintro (z | z)
      · exact h0 z
      · apply z
        rw [hpc]
        have h1 : 1 ≤ sN (fun k => (gsP T s (nR T) k).toNat) 8 := by
          have := sN_a1 (f := fun k => (gsP T s (nR T) k).toNat) (show gDg (T 5) (rwF T 0) s < 8 from gDg_lt _ _ _)
          have e : (gsP T s (nR T) (gDg (T 5) (rwF T 0) s)).toNat = 1 := by rw [hg0]; rfl
          have e2 : (fun k => (gsP T s (nR T) k).toNat) (gDg (T 5) (rwF T 0) s) = 1 := e
          omega
        have h2 := sN_uniq (p := gsP T s (nR T)) (fun i j qi qj => by
          obtain ⟨a, a1, a2⟩ := anyN_t.mp qi
          obtain ⟨b, b1, b2⟩ := anyN_t.mp qj
          rw [beq_iff_eq] at a2 b2
          rw [← a2, ← b2, hv a a1, hv b b1]) 8
        omega
theorem m_isStrayQ {h : gH} {T S : Nat → Nat} {a : Int} (hQ : mQ h T S) (ha : inB a) : gSp 2 yX11_isStray cX11_isStray 2 (some .boolean) [.ref 142, .int (zI a)] h (gR (.int (zI (bI (decide (0 ≤ a ∧ a < (T 5 : Int)))))) h) := by
  obtain ⟨hA, h14, hZ, hC⟩ := hQ
  have h0 : T 3 = 0 → T 5 = 0 := by
    rcases hC with q | q
    · omega
    · have := q.1.2.2.2.1; omega
  unfold inB at ha
  refine gSp_of (by decide +kernel) (Nat.le_of_ble_eq_true rfl) ?_
  show gJ RX11 cX11_isStray 2 (some .boolean) _ 0 [some (.ref 142), some (.int (zI a))] [] _ _
  refine gj_aload_n (pc' := 1) dX11_isStray_0 rfl rfl ?_
  refine gf_X11_166 (pc' := 4) dX11_isStray_1 rfl (by first | rfl | assumption) rfl ?_
  rw [h14]
  first | refine gj_ifB_eq (pc' := 7) (tgt := 27) dX11_isStray_4 (by decide) rfl (fun c4 => ?_) (fun c4 => ?_) | refine gj_if_eq (pc' := 7) (tgt := 27) dX11_isStray_4 (by decide) rfl (by omega) (fun c4 => ?_) (fun c4 => ?_)
  · first | have g4 := of_decide_eq_true c4 | have g4 := of_decide_eq_false c4 | skip
    refine gj_iconst (pc' := 28) dX11_isStray_27 rfl ?_
    refine gj_zret rfl (by first | rfl | exact gnZ _ | assumption) dX11_isStray_28 ?_
    first | exact gR_t (by rw [decide_eq_true]; omega) | exact gR_f (by rw [decide_eq_false]; omega)
  · first | have g4 := of_decide_eq_true c4 | have g4 := of_decide_eq_false c4 | skip
    refine gj_iload_n (pc' := 8) dX11_isStray_7 rfl rfl ?_
    refine gj_iconst (pc' := 9) dX11_isStray_8 rfl ?_
    refine gj_aload_n (pc' := 10) dX11_isStray_9 rfl rfl ?_
    refine gf_X11_20 (pc' := 13) dX11_isStray_10 rfl (by first | rfl | assumption) rfl ?_
    refine gj_iconst (pc' := 14) dX11_isStray_13 rfl ?_
    refine gj_iald (pc' := 15) (j := 5) (by first | rfl | assumption) (by omega) (by omega) (by decide) dX11_isStray_14 rfl ?_
    rw [hA.1 5 (by decide)]
    refine gj_iconst (pc' := 16) dX11_isStray_15 rfl ?_
    refine gj_isub (pc' := 17) dX11_isStray_16 rfl ?_
    refine gr_X11_138 (pc' := 20) dX11_isStray_17 rfl (m_in ha (by omega) (by omega)) rfl (by decide) rfl (Nat.le_of_ble_eq_true rfl) ?_
    first | refine gj_ifB_eq (pc' := 23) (tgt := 27) dX11_isStray_20 (by decide) rfl (fun c20 => ?_) (fun c20 => ?_) | refine gj_if_eq (pc' := 23) (tgt := 27) dX11_isStray_20 (by decide) rfl (by omega) (fun c20 => ?_) (fun c20 => ?_)
    · first | have g20 := of_decide_eq_true c20 | have g20 := of_decide_eq_false c20 | skip
      refine gj_iconst (pc' := 28) dX11_isStray_27 rfl ?_
      refine gj_zret rfl (by first | rfl | exact gnZ _ | assumption) dX11_isStray_28 ?_
      first | exact gR_t (by rw [decide_eq_true]; omega) | exact gR_f (by rw [decide_eq_false]; omega)
    · first | have g20 := of_decide_eq_true c20 | have g20 := of_decide_eq_false c20 | skip
      refine gj_iconst (pc' := 24) dX11_isStray_23 rfl ?_
      refine gj_goto (pc' := 28) dX11_isStray_24 (by decide) ?_
      refine gj_zret rfl (by first | rfl | exact gnZ _ | assumption) dX11_isStray_28 ?_
      first | exact gR_t (by rw [decide_eq_true]; omega) | exact gR_f (by rw [decide_eq_false]; omega)
theorem MS.seek3 {h h9 : gH} (r1 : h9.2 = (mG h).2) (r2 : ∀ o, o ≠ 142 → o ≠ 152 → o ≠ 153 → o ≠ 154 → o ≠ 155 → h9.1 o = (mG h).1 o) (r3 : ∀ k, k ≠ 30 → k ≠ 31 → k ≠ 32 → h9.1 142 k = (mG h).1 142 k) : MS h h9 := by
  obtain ⟨g1, g2, g3, g4⟩ := MS.good h
  exact ⟨r1.trans g1, fun o a _ _ a3 a4 a5 a6 => (r2 o a a3 a4 a5 a6).trans (g2 o a (by assumption) (by assumption) a3 a4 a5 a6), fun k a b c => (r3 k (by omega) (by omega) (by omega)).trans (g3 k a b c), (r3 0 (by omega) (by omega) (by omega)).trans g4⟩
theorem MS.no2 {h h9 : gH} {w : Int} (a : MS h h9) : MS h (gui h9 142 11 w) := by
  obtain ⟨a1, a2, a3, a4⟩ := a
  exact ⟨a1, fun o b b1 b2 b3 b4 b5 b6 => (gui_n b).trans (a2 o b b1 b2 b3 b4 b5 b6), fun k b c d => by rw [gui_s, up1_n c]; exact a3 k b c d, by rw [gui_s, up1_n (by decide)]; exact a4⟩
theorem m_fits {h : gH} {T S : Nat → Nat} (hQ : mQ h T S) : gSp 16 yX11_fits cX11_fits 1 (some .int) [.ref 142] h (qM (aTown T (nR T : Nat)).1 (aTown T (nR T : Nat)).2 h) := by
  obtain ⟨hA, hH, hZ, -⟩ := id hQ
  have hH2 : (mG h).1 142 14 = bI (decide (T 3 ≠ 0)) := hH
  refine gSp_of (by decide +kernel) (Nat.le_of_ble_eq_true rfl) ?_
  show gJ RX11 cX11_fits 1 (some .int) _ 0 [some (.ref 142)] [] _ _
  refine gj_aload_n (pc' := 1) dX11_fits_0 rfl rfl ?_
  refine gc_X11_153 (pc' := 4) dX11_fits_1 rfl (m_good) rfl (by first | rfl | assumption) (by decide) rfl (Nat.le_of_ble_eq_true rfl) (fun v9 h9 q9 => ?_)
  obtain ⟨rfl, rfl⟩ := q9
  show gJ _ _ _ _ _ _ _ [] _ _
  refine gj_aload_n (pc' := 5) dX11_fits_4 rfl rfl ?_
  refine gf_X11_166 (pc' := 8) dX11_fits_5 rfl (by first | rfl | assumption) rfl ?_
  rw [hH2]
  first | refine gj_ifB_ne (pc' := 11) (tgt := 17) dX11_fits_8 (by decide) rfl (fun c8 => ?_) (fun c8 => ?_) | refine gj_if_ne (pc' := 11) (tgt := 17) dX11_fits_8 (by decide) rfl (by omega) (fun c8 => ?_) (fun c8 => ?_)
  · first | have g8 := of_decide_eq_true c8 | have g8 := of_decide_eq_false c8 | skip
    have hM : MI (mG h) T S := hQ.mi (by omega)
    obtain ⟨hA2, hT, hS⟩ := id hM
    have h3 := hT.2.2.2.1
    have h5 : T 5 ≤ 3 := hT.2.2.2.2.2.1
    have h125 : nR T ≤ 125 := cnt_125 hT
    refine gj_aload_n (pc' := 18) dX11_fits_17 rfl rfl ?_
    refine gj_iconst (pc' := 19) dX11_fits_18 rfl ?_
    refine gc_X11_358 (pc' := 22) dX11_fits_19 rfl (m_seekFits hM (by unfold inB; omega)) rfl (by first | rfl | assumption) (by decide) rfl (Nat.le_of_ble_eq_true rfl) (fun v9 h9 q9 => ?_)
    obtain ⟨rfl, r1, r2, r3, f0, f1, f2, f3, f4⟩ := q9
    obtain ⟨hd, rfl⟩ : ∃ x, x = h9 := ⟨h9, rfl⟩
    have hM3 : MI hd T S := hM.nt (r2 145 (by decide) (by decide) (by decide) (by decide) (by decide)) (r2 147 (by decide) (by decide) (by decide) (by decide) (by decide))
    have hms : MS h hd := MS.seek3 r1 r2 (fun k k1 k2 _ => r3 k k1 k2)
    have h11 : hd.1 142 11 = 0 := (r3 11 (by decide) (by decide)).trans rfl
    show gJ _ _ _ _ _ _ _ [] _ _
    refine gj_aload_n (pc' := 23) dX11_fits_22 rfl rfl ?_
    refine gf_X11_352 (pc' := 26) dX11_fits_23 rfl (by first | rfl | assumption) rfl ?_
    rw [f1]
    refine gj_iret rfl dX11_fits_26 ?_
    exact qM_i (tr := 0) (by unfold aTown; rw [if_pos (by omega)]; rfl) hms h11
  · first | have g8 := of_decide_eq_true c8 | have g8 := of_decide_eq_false c8 | skip
    refine gj_aload_n (pc' := 12) dX11_fits_11 rfl rfl ?_
    refine gj_iconst (pc' := 13) dX11_fits_12 rfl ?_
    refine gc_X11_156 (pc' := 16) dX11_fits_13 rfl (m_no) rfl (by first | rfl | assumption) (by decide) rfl (Nat.le_of_ble_eq_true rfl) (fun v9 h9 q9 => ?_)
    obtain ⟨rfl, rfl⟩ := q9
    show gJ _ _ _ _ _ _ _ (.int (zI (-1)) :: _) _ _
    refine gj_iret rfl dX11_fits_16 ?_
    exact qM_n (by unfold aTown; rw [if_neg (by omega)])
theorem m_fitAt {h : gH} {T S : Nat → Nat} {a b : Int} (hQ : mQ h T S) (ha : inB a) (hb : inB b) : gSp 16 yX11_fitAt cX11_fitAt 3 (some .int) [.ref 142, .int (zI a), .int (zI b)] h (qM (aFitAt T a b).1 (aFitAt T a b).2 h) := by
  obtain ⟨hA, hH, hZ, -⟩ := id hQ
  have hH2 : (mG h).1 142 14 = bI (decide (T 3 ≠ 0)) := hH
  have ha2 := ha; unfold inB at ha2
  have hb2 := hb; unfold inB at hb2
  refine gSp_of (by decide +kernel) (Nat.le_of_ble_eq_true rfl) ?_
  show gJ RX11 cX11_fitAt 3 (some .int) _ 0 [some (.ref 142), some (.int (zI a)), some (.int (zI b))] [] _ _
  refine gj_aload_n (pc' := 1) dX11_fitAt_0 rfl rfl ?_
  refine gc_X11_153 (pc' := 4) dX11_fitAt_1 rfl (m_good) rfl (by first | rfl | assumption) (by decide) rfl (Nat.le_of_ble_eq_true rfl) (fun v9 h9 q9 => ?_)
  obtain ⟨rfl, rfl⟩ := q9
  show gJ _ _ _ _ _ _ _ [] _ _
  refine gj_aload_n (pc' := 5) dX11_fitAt_4 rfl rfl ?_
  refine gj_iload_n (pc' := 6) dX11_fitAt_5 rfl rfl ?_
  refine gr_X11_361 (pc' := 9) dX11_fitAt_6 rfl (m_isStrayQ hQ.g hb) rfl (by first | rfl | assumption) (by decide) rfl (Nat.le_of_ble_eq_true rfl) ?_
  first | refine gj_ifB_eq (pc' := 12) (tgt := 16) dX11_fitAt_9 (by decide) rfl (fun c9 => ?_) (fun c9 => ?_) | refine gj_if_eq (pc' := 12) (tgt := 16) dX11_fitAt_9 (by decide) rfl (by omega) (fun c9 => ?_) (fun c9 => ?_)
  · first | have g9 := of_decide_eq_true c9 | have g9 := of_decide_eq_false c9 | skip
    refine gj_aload_n (pc' := 17) dX11_fitAt_16 rfl rfl ?_
    refine gj_iconst (pc' := 18) dX11_fitAt_17 rfl ?_
    refine gc_X11_156 (pc' := 21) dX11_fitAt_18 rfl (m_no) rfl (by first | rfl | assumption) (by decide) rfl (Nat.le_of_ble_eq_true rfl) (fun v9 h9 q9 => ?_)
    obtain ⟨rfl, rfl⟩ := q9
    show gJ _ _ _ _ _ _ _ (.int (zI (-1)) :: _) _ _
    refine gj_iret rfl dX11_fitAt_21 ?_
    exact qM_n (by unfold aFitAt; rw [if_neg (by omega)])
  · first | have g9 := of_decide_eq_true c9 | have g9 := of_decide_eq_false c9 | skip
    refine gj_iload_n (pc' := 13) dX11_fitAt_12 rfl rfl ?_
    refine gj_if_ge (pc' := 16) (tgt := 22) dX11_fitAt_13 (by decide) rfl (by omega) (fun c13 => ?_) (fun c13 => ?_)
    · first | have g13 := of_decide_eq_true c13 | have g13 := of_decide_eq_false c13 | skip
      have hM : MI (mG h) T S := hQ.mi (by omega)
      obtain ⟨hA2, hT, hS⟩ := id hM
      have h3 := hT.2.2.2.1
      have h5 : T 5 ≤ 3 := hT.2.2.2.2.2.1
      have h125 : nR T ≤ 125 := cnt_125 hT
      refine gj_aload_n (pc' := 23) dX11_fitAt_22 rfl rfl ?_
      refine gj_iload_n (pc' := 24) dX11_fitAt_23 rfl rfl ?_
      refine gc_X11_358 (pc' := 27) dX11_fitAt_24 rfl (m_seekFits hM (ha)) rfl (by first | rfl | assumption) (by decide) rfl (Nat.le_of_ble_eq_true rfl) (fun v9 h9 q9 => ?_)
      obtain ⟨rfl, r1, r2, r3, f0, f1, f2, f3, f4⟩ := q9
      obtain ⟨hd, rfl⟩ : ∃ x, x = h9 := ⟨h9, rfl⟩
      have hM3 : MI hd T S := hM.nt (r2 145 (by decide) (by decide) (by decide) (by decide) (by decide)) (r2 147 (by decide) (by decide) (by decide) (by decide) (by decide))
      have hms : MS h hd := MS.seek3 r1 r2 (fun k k1 k2 _ => r3 k k1 k2)
      have h11 : hd.1 142 11 = 0 := (r3 11 (by decide) (by decide)).trans rfl
      show gJ _ _ _ _ _ _ _ [] _ _
      refine gj_iload_n (pc' := 28) dX11_fitAt_27 rfl rfl ?_
      refine gj_aload_n (pc' := 29) dX11_fitAt_28 rfl rfl ?_
      refine gf_X11_352 (pc' := 32) dX11_fitAt_29 rfl (by first | rfl | assumption) rfl ?_
      rw [f1]
      rw [show cnt T (NC T) = nR T from rfl]
      refine gj_icmp_ge (pc' := 35) (tgt := 44) dX11_fitAt_32 (by decide) rfl (by omega) (fun c32 => ?_) (fun c32 => ?_)
      · refine gj_aload_n (pc' := 45) dX11_fitAt_44 rfl rfl ?_
        refine gj_iconst (pc' := 46) dX11_fitAt_45 rfl ?_
        refine gc_X11_156 (pc' := 49) dX11_fitAt_46 rfl (m_no) rfl (by first | rfl | assumption) (by decide) rfl (Nat.le_of_ble_eq_true rfl) (fun v9 h9 q9 => ?_)
        obtain ⟨rfl, rfl⟩ := q9
        show gJ _ _ _ _ _ _ _ (.int (zI (-1)) :: _) _ _
        refine gj_iret rfl dX11_fitAt_49 ?_
        first
        | exact qM_i (tr := 0) (by unfold aFitAt; rw [if_pos (by omega), Int.toNat_natCast, Int.toNat_natCast]) hms h11
        | exact qM_i (a := -1) (tr := 1) (by unfold aFitAt; rw [if_neg (by omega)]) hms.no2 (by rw [gui_s, up1_s])
      · obtain ⟨i, rfl⟩ : ∃ i : Nat, a = (i : Int) := ⟨a.toNat, by omega⟩
        obtain ⟨s, rfl⟩ : ∃ s : Nat, b = (s : Int) := ⟨b.toNat, by omega⟩
        obtain ⟨r1', r2', r3'⟩ := rwF_ok (T := T) (i := i) (by have : nR T = cnt T (NC T) := rfl; omega)
        have hfd := f4 _ r1' r2' (by rw [r3']) s (by omega)
        refine gj_aload_n (pc' := 36) dX11_fitAt_35 rfl rfl ?_
        refine gf_X11_44 (pc' := 39) dX11_fitAt_36 rfl (by first | rfl | assumption) rfl ?_
        refine gj_iload_n (pc' := 40) dX11_fitAt_39 rfl rfl ?_
        refine gj_iald (pc' := 41) (j := s) (by first | rfl | assumption) (by omega) (by omega) (by decide) dX11_fitAt_40 rfl ?_
        rw [hfd]
        refine gj_goto (pc' := 49) dX11_fitAt_41 (by decide) ?_
        refine gj_iret rfl dX11_fitAt_49 ?_
        first
        | exact qM_i (tr := 0) (by unfold aFitAt; rw [if_pos (by omega), Int.toNat_natCast, Int.toNat_natCast]) hms h11
        | exact qM_i (a := -1) (tr := 1) (by unfold aFitAt; rw [if_neg (by omega)]) hms.no2 (by rw [gui_s, up1_s])
    · first | have g13 := of_decide_eq_true c13 | have g13 := of_decide_eq_false c13 | skip
      refine gj_aload_n (pc' := 17) dX11_fitAt_16 rfl rfl ?_
      refine gj_iconst (pc' := 18) dX11_fitAt_17 rfl ?_
      refine gc_X11_156 (pc' := 21) dX11_fitAt_18 rfl (m_no) rfl (by first | rfl | assumption) (by decide) rfl (Nat.le_of_ble_eq_true rfl) (fun v9 h9 q9 => ?_)
      obtain ⟨rfl, rfl⟩ := q9
      show gJ _ _ _ _ _ _ _ (.int (zI (-1)) :: _) _ _
      refine gj_iret rfl dX11_fitAt_21 ?_
      exact qM_n (by unfold aFitAt; rw [if_neg (by omega)])
theorem m_could {h : gH} {T S : Nat → Nat} {a : Int} (hQ : mQ h T S) (ha : inB a) : gSp 16 yX11_could cX11_could 4 (some .int) [.ref 142, .int (zI a)] h (qM (aSt T a (fun s => (gsN T s : Nat))).1 (aSt T a (fun s => (gsN T s : Nat))).2 h) := by
  obtain ⟨hA, hH, hZ, -⟩ := id hQ
  have hH2 : (mG h).1 142 14 = bI (decide (T 3 ≠ 0)) := hH
  have ha2 := ha; unfold inB at ha2
  refine gSp_of (by decide +kernel) (Nat.le_of_ble_eq_true rfl) ?_
  show gJ RX11 cX11_could 4 (some .int) _ 0 [some (.ref 142), some (.int (zI a)), none, none] [] _ _
  refine gj_aload_n (pc' := 1) dX11_could_0 rfl rfl ?_
  refine gc_X11_153 (pc' := 4) dX11_could_1 rfl (m_good) rfl (by first | rfl | assumption) (by decide) rfl (Nat.le_of_ble_eq_true rfl) (fun v9 h9 q9 => ?_)
  obtain ⟨rfl, rfl⟩ := q9
  show gJ _ _ _ _ _ _ _ [] _ _
  refine gj_aload_n (pc' := 5) dX11_could_4 rfl rfl ?_
  refine gj_iload_n (pc' := 6) dX11_could_5 rfl rfl ?_
  refine gr_X11_361 (pc' := 9) dX11_could_6 rfl (m_isStrayQ hQ.g ha) rfl (by first | rfl | assumption) (by decide) rfl (Nat.le_of_ble_eq_true rfl) ?_
  first | refine gj_ifB_ne (pc' := 12) (tgt := 18) dX11_could_9 (by decide) rfl (fun c9 => ?_) (fun c9 => ?_) | refine gj_if_ne (pc' := 12) (tgt := 18) dX11_could_9 (by decide) rfl (by omega) (fun c9 => ?_) (fun c9 => ?_)
  · first | have g9 := of_decide_eq_true c9 | have g9 := of_decide_eq_false c9 | skip
    have hM : MI (mG h) T S := hQ.mi (by omega)
    obtain ⟨hA2, hT, hS⟩ := id hM
    have h3 := hT.2.2.2.1
    have h5 : T 5 ≤ 3 := hT.2.2.2.2.2.1
    have h125 : nR T ≤ 125 := cnt_125 hT
    obtain ⟨s, rfl⟩ : ∃ s : Nat, a = (s : Int) := ⟨a.toNat, by omega⟩
    refine gj_aload_n (pc' := 19) dX11_could_18 rfl rfl ?_
    refine gj_iconst (pc' := 20) dX11_could_19 rfl ?_
    refine gc_X11_358 (pc' := 23) dX11_could_20 rfl (m_seekFits hM (by unfold inB; omega)) rfl (by first | rfl | assumption) (by decide) rfl (Nat.le_of_ble_eq_true rfl) (fun v9 h9 q9 => ?_)
    obtain ⟨rfl, r1, r2, r3, f0, f1, f2, f3, f4⟩ := q9
    obtain ⟨hd, rfl⟩ : ∃ x, x = h9 := ⟨h9, rfl⟩
    have hM3 : MI hd T S := hM.nt (r2 145 (by decide) (by decide) (by decide) (by decide) (by decide)) (r2 147 (by decide) (by decide) (by decide) (by decide) (by decide))
    have hms : MS h hd := MS.seek3 r1 r2 (fun k k1 k2 _ => r3 k k1 k2)
    have h11 : hd.1 142 11 = 0 := (r3 11 (by decide) (by decide)).trans rfl
    show gJ _ _ _ _ _ _ _ [] _ _
    refine gj_iconst (pc' := 24) dX11_could_23 rfl ?_
    refine gj_istore_n (pc' := 25) dX11_could_24 rfl (by decide) ?_
    refine gj_iconst (pc' := 26) dX11_could_25 rfl ?_
    refine gj_istore_n (pc' := 27) dX11_could_26 rfl (by decide) ?_
    refine gJ_wk (gJ_for (L := fun k => [some (.ref 142), some (.int (zI (s : Int))), some (.int (zI (bN (fun k => decide (0 < cnF T s k)) k : Nat))), some (.int (zI (k : Int)))]) (T 3) (fun k hb_k ih_k => ?_) (0) (Nat.zero_le _)) ?_
    · have hcn : ∀ k, cnF T s k ≤ 512 := fun k => by
        have h1 := sN_le (f := fun x => (okF T x && (gDg (T 5) x s == k)).toNat) (c := 1) (n := NC T) (fun i _ => Bool.toNat_le _)
        have h2 := NC_le hT
        unfold cnF
        omega
      have hck := hcn k
      refine gj_iload_n (pc' := 28) dX11_could_27 rfl rfl ?_
      refine gj_aload_n (pc' := 29) dX11_could_28 rfl rfl ?_
      refine gf_X11_20 (pc' := 32) dX11_could_29 rfl (by first | rfl | assumption) rfl ?_
      refine gj_iconst (pc' := 33) dX11_could_32 rfl ?_
      refine gj_iald (pc' := 34) (j := 3) (by first | rfl | assumption) (by omega) (by omega) (by decide) dX11_could_33 rfl ?_
      rw [hM3.1.1 3 (by decide)]
      refine gj_icmp_ge (pc' := 37) (tgt := 67) dX11_could_34 (by decide) rfl (by omega) (fun c34 => ?_) (fun c34 => ?_)
      · refine gj_iload_n (pc' := 68) dX11_could_67 rfl rfl ?_
        refine gj_iret rfl dX11_could_68 ?_
        exact qM_i (tr := 0) (by unfold aSt; rw [if_pos (by omega), Int.toNat_natCast, show k = T 3 by omega, gsN_eq h3.2 (by omega)]) hms h11
      · refine gj_iload_n (pc' := 38) dX11_could_37 rfl rfl ?_
        refine gj_aload_n (pc' := 39) dX11_could_38 rfl rfl ?_
        refine gf_X11_47 (pc' := 42) dX11_could_39 rfl (by first | rfl | assumption) rfl ?_
        refine gj_bipush (pc' := 44) dX11_could_42 rfl (by decide) ?_
        refine gj_iload_n (pc' := 45) dX11_could_44 rfl rfl ?_
        refine gj_imul (pc' := 46) dX11_could_45 rfl ?_
        refine gj_iload_n (pc' := 47) dX11_could_46 rfl rfl ?_
        refine gj_iadd (pc' := 48) dX11_could_47 rfl ?_
        refine gj_iald (pc' := 49) (j := 6 * s + k) (by first | rfl | assumption) (by omega) (by omega) (by decide) dX11_could_48 rfl ?_
        rw [f2 s (by omega) k (by omega), show sN (fun x => (okF T x && (gDg (T 5) x s == k)).toNat) (NC T) = cnF T s k from rfl]
        refine gj_if_le (pc' := 52) (tgt := 58) dX11_could_49 (by decide) rfl (by omega) (fun c49 => ?_) (fun c49 => ?_)
        · first | have g49 := of_decide_eq_true c49 | have g49 := of_decide_eq_false c49 | skip
          refine gj_iconst (pc' := 59) dX11_could_58 rfl ?_
          refine gj_ior (pc' := 60) dX11_could_59 rfl ?_
          first | rw [bN_orI (by omega)] | rw [bN_or0 (by omega)]
          refine gj_istore_n (pc' := 61) dX11_could_60 rfl (by decide) ?_
          refine gj_iinc (pc' := 64) dX11_could_61 rfl rfl (by decide) ?_
          refine gj_goto (pc' := 27) dX11_could_64 (by decide) ?_
          refine gJ_wk (ih_k (by omega)) ?_
          repeat' (first | exact True.intro | with_reducible exact rfl | refine And.intro ?_ ?_ | refine vI ?_ | refine vL ?_)
          all_goals first | omega | (rw [bN_t (decide_eq_true (by omega))]) | (rw [bN_f (decide_eq_false (by omega))])
        · first | have g49 := of_decide_eq_true c49 | have g49 := of_decide_eq_false c49 | skip
          refine gj_iconst (pc' := 53) dX11_could_52 rfl ?_
          refine gj_iload_n (pc' := 54) dX11_could_53 rfl rfl ?_
          refine gj_ishl (pc' := 55) dX11_could_54 rfl ?_
          rw [bt_shl1 (by omega)]
          refine gj_goto (pc' := 59) dX11_could_55 (by decide) ?_
          refine gj_ior (pc' := 60) dX11_could_59 rfl ?_
          first | rw [bN_orI (by omega)] | rw [bN_or0 (by omega)]
          refine gj_istore_n (pc' := 61) dX11_could_60 rfl (by decide) ?_
          refine gj_iinc (pc' := 64) dX11_could_61 rfl rfl (by decide) ?_
          refine gj_goto (pc' := 27) dX11_could_64 (by decide) ?_
          refine gJ_wk (ih_k (by omega)) ?_
          repeat' (first | exact True.intro | with_reducible exact rfl | refine And.intro ?_ ?_ | refine vI ?_ | refine vL ?_)
          all_goals first | omega | (rw [bN_t (decide_eq_true (by omega))]) | (rw [bN_f (decide_eq_false (by omega))])
    · repeat' (first | exact True.intro | with_reducible exact rfl | refine And.intro ?_ ?_ | refine vI ?_ | refine vL ?_)
      all_goals first | rfl | omega
  · first | have g9 := of_decide_eq_true c9 | have g9 := of_decide_eq_false c9 | skip
    refine gj_aload_n (pc' := 13) dX11_could_12 rfl rfl ?_
    refine gj_iconst (pc' := 14) dX11_could_13 rfl ?_
    refine gc_X11_156 (pc' := 17) dX11_could_14 rfl (m_no) rfl (by first | rfl | assumption) (by decide) rfl (Nat.le_of_ble_eq_true rfl) (fun v9 h9 q9 => ?_)
    obtain ⟨rfl, rfl⟩ := q9
    show gJ _ _ _ _ _ _ _ (.int (zI (-1)) :: _) _ _
    refine gj_iret rfl dX11_could_17 ?_
    exact qM_n (by unfold aSt; rw [if_neg (by omega)])
theorem m_surely {h : gH} {T S : Nat → Nat} {a : Int} (hQ : mQ h T S) (ha : inB a) : gSp 16 yX11_surely cX11_surely 3 (some .int) [.ref 142, .int (zI a)] h (qM (aSt T a (fun s => suF T s)).1 (aSt T a (fun s => suF T s)).2 h) := by
  obtain ⟨hA, hH, hZ, -⟩ := id hQ
  have hH2 : (mG h).1 142 14 = bI (decide (T 3 ≠ 0)) := hH
  have ha2 := ha; unfold inB at ha2
  refine gSp_of (by decide +kernel) (Nat.le_of_ble_eq_true rfl) ?_
  show gJ RX11 cX11_surely 3 (some .int) _ 0 [some (.ref 142), some (.int (zI a)), none] [] _ _
  refine gj_aload_n (pc' := 1) dX11_surely_0 rfl rfl ?_
  refine gc_X11_153 (pc' := 4) dX11_surely_1 rfl (m_good) rfl (by first | rfl | assumption) (by decide) rfl (Nat.le_of_ble_eq_true rfl) (fun v9 h9 q9 => ?_)
  obtain ⟨rfl, rfl⟩ := q9
  show gJ _ _ _ _ _ _ _ [] _ _
  refine gj_aload_n (pc' := 5) dX11_surely_4 rfl rfl ?_
  refine gj_iload_n (pc' := 6) dX11_surely_5 rfl rfl ?_
  refine gr_X11_361 (pc' := 9) dX11_surely_6 rfl (m_isStrayQ hQ.g ha) rfl (by first | rfl | assumption) (by decide) rfl (Nat.le_of_ble_eq_true rfl) ?_
  first | refine gj_ifB_ne (pc' := 12) (tgt := 18) dX11_surely_9 (by decide) rfl (fun c9 => ?_) (fun c9 => ?_) | refine gj_if_ne (pc' := 12) (tgt := 18) dX11_surely_9 (by decide) rfl (by omega) (fun c9 => ?_) (fun c9 => ?_)
  · first | have g9 := of_decide_eq_true c9 | have g9 := of_decide_eq_false c9 | skip
    have hM : MI (mG h) T S := hQ.mi (by omega)
    obtain ⟨hA2, hT, hS⟩ := id hM
    have h3 := hT.2.2.2.1
    have h5 : T 5 ≤ 3 := hT.2.2.2.2.2.1
    have h125 : nR T ≤ 125 := cnt_125 hT
    obtain ⟨s, rfl⟩ : ∃ s : Nat, a = (s : Int) := ⟨a.toNat, by omega⟩
    refine gj_aload_n (pc' := 19) dX11_surely_18 rfl rfl ?_
    refine gj_iconst (pc' := 20) dX11_surely_19 rfl ?_
    refine gc_X11_358 (pc' := 23) dX11_surely_20 rfl (m_seekFits hM (by unfold inB; omega)) rfl (by first | rfl | assumption) (by decide) rfl (Nat.le_of_ble_eq_true rfl) (fun v9 h9 q9 => ?_)
    obtain ⟨rfl, r1, r2, r3, f0, f1, f2, f3, f4⟩ := q9
    obtain ⟨hd, rfl⟩ : ∃ x, x = h9 := ⟨h9, rfl⟩
    have hM3 : MI hd T S := hM.nt (r2 145 (by decide) (by decide) (by decide) (by decide) (by decide)) (r2 147 (by decide) (by decide) (by decide) (by decide) (by decide))
    have hms : MS h hd := MS.seek3 r1 r2 (fun k k1 k2 _ => r3 k k1 k2)
    have h11 : hd.1 142 11 = 0 := (r3 11 (by decide) (by decide)).trans rfl
    show gJ _ _ _ _ _ _ _ [] _ _
    refine gj_iconst (pc' := 24) dX11_surely_23 rfl ?_
    refine gj_istore_n (pc' := 25) dX11_surely_24 rfl (by decide) ?_
    refine gJ_wk (gJ_fH0 (L := fun k  => [some (.ref 142), some (.int (zI (s : Int))), some (.int (zI (k : Int)))]) (I := fun k  hp => hp = hd ∧ fstN (fun k => decide (0 < nR T) && decide (cnF T s k = nR T)) k = -2) (T 3) (fun k  hp hb_k iv_k ih_k => ?step_1) (0) (Nat.zero_le _)  _ ?iv0_1) ?ll0_1
    case ll0_1 =>
      repeat' (first | exact True.intro | with_reducible exact rfl | refine And.intro ?_ ?_ | refine vI ?_ | refine vL ?_)
      all_goals first | rfl | omega
    case iv0_1 =>
      exact ⟨rfl, rfl⟩
    obtain ⟨rfl, i2⟩ := iv_k
    have es := fstN_s (fun k => decide (0 < nR T) && decide (cnF T s k = nR T)) k
    have hcn : ∀ k, cnF T s k ≤ 512 := fun k => by
      have h1 := sN_le (f := fun x => (okF T x && (gDg (T 5) x s == k)).toNat) (c := 1) (n := NC T) (fun i _ => Bool.toNat_le _)
      have h2 := NC_le hT
      unfold cnF
      omega
    have hck := hcn k
    refine gj_iload_n (pc' := 26) dX11_surely_25 rfl rfl ?_
    refine gj_aload_n (pc' := 27) dX11_surely_26 rfl rfl ?_
    refine gf_X11_20 (pc' := 30) dX11_surely_27 rfl (by first | rfl | assumption) rfl ?_
    refine gj_iconst (pc' := 31) dX11_surely_30 rfl ?_
    refine gj_iald (pc' := 32) (j := 3) (by first | rfl | assumption) (by omega) (by omega) (by decide) dX11_surely_31 rfl ?_
    rw [hM3.1.1 3 (by decide)]
    refine gj_icmp_ge (pc' := 35) (tgt := 68) dX11_surely_32 (by decide) rfl (by omega) (fun c32 => ?_) (fun c32 => ?_)
    · refine gj_bipush (pc' := 70) dX11_surely_68 rfl (by decide) ?_
      refine gj_iret rfl dX11_surely_70 ?_
      rw [show k = T 3 by omega] at i2
      exact qM_i (tr := 0) (by unfold aSt; rw [if_pos (by omega), Int.toNat_natCast]; show (suF T s, (0 : Int)) = _; rw [← su_eq h3.2 (by omega), i2]) hms h11
    · refine gj_aload_n (pc' := 36) dX11_surely_35 rfl rfl ?_
      refine gf_X11_352 (pc' := 39) dX11_surely_36 rfl (by first | rfl | assumption) rfl ?_
      rw [f1]
      rw [show cnt T (NC T) = nR T from rfl]
      refine gj_if_le (pc' := 42) (tgt := 62) dX11_surely_39 (by decide) rfl (by omega) (fun c39 => ?_) (fun c39 => ?_)
      · first | have g39 := of_decide_eq_true c39 | have g39 := of_decide_eq_false c39 | skip
        refine gj_iinc (pc' := 65) dX11_surely_62 rfl rfl (by decide) ?_
        refine gj_goto (pc' := 25) dX11_surely_65 (by decide) ?_
        refine gJ_wk (ih_k  _ (by omega) ?iv_2) ?ll_2
        case ll_2 =>
          repeat' (first | exact True.intro | with_reducible exact rfl | refine And.intro ?_ ?_ | refine vI ?_ | refine vL ?_)
          all_goals omega
        refine ⟨rfl, es.trans ?_⟩
        rw [if_neg]
        · exact i2
        · intro z
          have z2 := z.2
          rw [Bool.and_eq_true, decide_eq_true_eq, decide_eq_true_eq] at z2
          omega
      · first | have g39 := of_decide_eq_true c39 | have g39 := of_decide_eq_false c39 | skip
        refine gj_aload_n (pc' := 43) dX11_surely_42 rfl rfl ?_
        refine gf_X11_47 (pc' := 46) dX11_surely_43 rfl (by first | rfl | assumption) rfl ?_
        refine gj_bipush (pc' := 48) dX11_surely_46 rfl (by decide) ?_
        refine gj_iload_n (pc' := 49) dX11_surely_48 rfl rfl ?_
        refine gj_imul (pc' := 50) dX11_surely_49 rfl ?_
        refine gj_iload_n (pc' := 51) dX11_surely_50 rfl rfl ?_
        refine gj_iadd (pc' := 52) dX11_surely_51 rfl ?_
        refine gj_iald (pc' := 53) (j := 6 * s + k) (by first | rfl | assumption) (by omega) (by omega) (by decide) dX11_surely_52 rfl ?_
        rw [f2 s (by omega) k (by omega), show sN (fun x => (okF T x && (gDg (T 5) x s == k)).toNat) (NC T) = cnF T s k from rfl]
        refine gj_aload_n (pc' := 54) dX11_surely_53 rfl rfl ?_
        refine gf_X11_352 (pc' := 57) dX11_surely_54 rfl (by first | rfl | assumption) rfl ?_
        rw [f1, show cnt T (NC T) = nR T from rfl]
        refine gj_icmp_ne (pc' := 60) (tgt := 62) dX11_surely_57 (by decide) rfl (by omega) (fun c57 => ?_) (fun c57 => ?_)
        · refine gj_iinc (pc' := 65) dX11_surely_62 rfl rfl (by decide) ?_
          refine gj_goto (pc' := 25) dX11_surely_65 (by decide) ?_
          refine gJ_wk (ih_k  _ (by omega) ?iv_3) ?ll_3
          case ll_3 =>
            repeat' (first | exact True.intro | with_reducible exact rfl | refine And.intro ?_ ?_ | refine vI ?_ | refine vL ?_)
            all_goals omega
          refine ⟨rfl, es.trans ?_⟩
          rw [if_neg]
          · exact i2
          · intro z
            have z2 := z.2
            rw [Bool.and_eq_true, decide_eq_true_eq, decide_eq_true_eq] at z2
            omega
        · refine gj_iload_n (pc' := 61) dX11_surely_60 rfl rfl ?_
          refine gj_iret rfl dX11_surely_61 ?_
          have hit : (decide (0 < nR T) && decide (cnF T s k = nR T)) = true := by
            rw [decide_eq_true (by omega), decide_eq_true (by omega)]
            rfl
          exact qM_i (tr := 0) (by unfold aSt; rw [if_pos (by omega), Int.toNat_natCast]; show (suF T s, (0 : Int)) = _; rw [← su_eq h3.2 (by omega), fstN_hit (p := fun k => decide (0 < nR T) && decide (cnF T s k = nR T)) i2 hit (by omega)]) hms h11
  · first | have g9 := of_decide_eq_true c9 | have g9 := of_decide_eq_false c9 | skip
    refine gj_aload_n (pc' := 13) dX11_surely_12 rfl rfl ?_
    refine gj_iconst (pc' := 14) dX11_surely_13 rfl ?_
    refine gc_X11_156 (pc' := 17) dX11_surely_14 rfl (m_no) rfl (by first | rfl | assumption) (by decide) rfl (Nat.le_of_ble_eq_true rfl) (fun v9 h9 q9 => ?_)
    obtain ⟨rfl, rfl⟩ := q9
    show gJ _ _ _ _ _ _ _ (.int (zI (-1)) :: _) _ _
    refine gj_iret rfl dX11_surely_17 ?_
    exact qM_n (by unfold aSt; rw [if_neg (by omega)])
theorem m_lookOf {h : gH} {T S : Nat → Nat} (hM : MI h T S) : gSp 11 yX11_lookOf cX11_lookOf 5 (some .int) [.ref 142] h (fun v h' => v = some (.int (zI ((lkF T).1))) ∧ h'.2 = h.2 ∧ (∀ o, o ≠ 142 → o ≠ 152 → o ≠ 153 → o ≠ 154 → o ≠ 155 → h'.1 o = h.1 o) ∧ (∀ k, k ≠ 30 → k ≠ 31 → k ≠ 32 → h'.1 142 k = h.1 142 k) ∧ h'.1 142 32 = (lkF T).2) := by
  obtain ⟨hA2, hT, hS⟩ := id hM
  have h3 := hT.2.2.2.1
  have h5 : T 5 ≤ 3 := hT.2.2.2.2.2.1
  have h125 : nR T ≤ 125 := cnt_125 hT
  have hLK := LK_ok T
  have hmx := mxF_le hT
  have htl := tlN_le hT
  refine gSp_of (by decide +kernel) (Nat.le_of_ble_eq_true rfl) ?_
  show gJ RX11 cX11_lookOf 5 (some .int) _ 0 [some (.ref 142), none, none, none, none] [] _ _
  refine gj_aload_n (pc' := 1) dX11_lookOf_0 rfl rfl ?_
  refine gj_iconst (pc' := 2) dX11_lookOf_1 rfl ?_
  refine gc_X11_358 (pc' := 5) dX11_lookOf_2 rfl (m_seekFits hM (by unfold inB; omega)) rfl (by first | rfl | assumption) (by decide) rfl (Nat.le_of_ble_eq_true rfl) (fun v9 h9 q9 => ?_)
  obtain ⟨rfl, r1, r2, r3, f0, f1, f2, f3, f4⟩ := q9
  obtain ⟨hd, rfl⟩ : ∃ x, x = h9 := ⟨h9, rfl⟩
  have hM3 : MI hd T S := hM.nt (r2 145 (by decide) (by decide) (by decide) (by decide) (by decide)) (r2 147 (by decide) (by decide) (by decide) (by decide) (by decide))
  show gJ _ _ _ _ _ _ _ [] _ _
  refine gj_bipush (pc' := 7) dX11_lookOf_5 rfl (by decide) ?_
  refine gj_istore_n (pc' := 8) dX11_lookOf_7 rfl (by decide) ?_
  refine gj_aload_n (pc' := 9) dX11_lookOf_8 rfl rfl ?_
  refine gj_bipush (pc' := 11) dX11_lookOf_9 rfl (by decide) ?_
  refine gp_X11_364 (pc' := 14) dX11_lookOf_11 rfl (by first | rfl | assumption) rfl ?_
  refine gj_iconst (pc' := 15) dX11_lookOf_14 rfl ?_
  refine gj_istore_n (pc' := 16) dX11_lookOf_15 rfl (by decide) ?_
  refine gJ_wk (gJ_fH1 (L := fun n x => [some (.ref 142), some (.int (zI x)), some (.int (zI (n : Int))), none, none]) (I := fun n x hp => (n = 0 ∨ 0 < nR T) ∧ hp.2 = hd.2 ∧ (∀ o, o ≠ 142 → hp.1 o = hd.1 o) ∧ (∀ k, k ≠ 32 → hp.1 142 k = hd.1 142 k) ∧ x = (LK T n).1 ∧ hp.1 142 32 = (LK T n).2) (41 * T 3) (fun n x hp hb_n iv_n ih_n => ?step_1) (0) (Nat.zero_le _) ?x0_1 _ ?iv0_1) ?ll0_1
  case ll0_1 =>
    repeat' (first | exact True.intro | with_reducible exact rfl | refine And.intro ?_ ?_ | refine vI ?_ | refine vL ?_)
    all_goals first | rfl | omega
  case iv0_1 =>
    exact ⟨Or.inl rfl, rfl, fun o ho => gui_n ho, fun k hk => by rw [gui_s, up1_n hk], rfl, by rw [gui_s, up1_s]; rfl⟩
  obtain ⟨i0, i1, i2, i3, rfl, i5⟩ := iv_n
  have es := LK_s T n
  have hmn := hmx (n / 41) (n % 41)
  have hp0 : n = 0 → LK T n = (-2, -2) := fun q => by rw [q]; rfl
  have hp1 : n ≠ 0 → 0 ≤ (LK T n).1 ∧ (LK T n).1 ≤ 640 ∧ 0 ≤ (LK T n).2 ∧ (LK T n).2 ≤ 512 := fun q => by
    obtain ⟨e0, a, b, b1, b2, b3, b4⟩ := hLK n (by omega)
    have := hmx a b
    refine ⟨?_, ?_, ?_, ?_⟩ <;> omega
  have hx2 : (n = 0 ∧ (LK T n).1 = -2 ∧ (LK T n).2 = -2) ∨ (n ≠ 0 ∧ 0 ≤ (LK T n).1 ∧ (LK T n).1 ≤ 640 ∧ 0 ≤ (LK T n).2 ∧ (LK T n).2 ≤ 512) := by
    by_cases q : n = 0
    · have e := hp0 q
      refine Or.inl ⟨q, ?_, ?_⟩ <;> rw [e]
    · exact Or.inr ⟨q, hp1 q⟩
  have hend : n = 41 * T 3 → nR T ≠ 0 → lkF T = LK T n := fun q z => by
    unfold lkF
    rw [if_neg z, q]
  have hend0 : n = 0 → nR T = 0 → lkF T = LK T n := fun q z => by
    unfold lkF
    rw [if_pos z, q]
    rfl
  refine gj_iload_n (pc' := 17) dX11_lookOf_16 rfl rfl ?_
  refine gj_bipush (pc' := 19) dX11_lookOf_17 rfl (by decide) ?_
  refine gj_aload_n (pc' := 20) dX11_lookOf_19 rfl rfl ?_
  refine gf_X11_20 (pc' := 23) dX11_lookOf_20 rfl (by first | rfl | assumption) rfl ?_
  refine gj_iconst (pc' := 24) dX11_lookOf_23 rfl ?_
  refine gj_iald (pc' := 25) (j := 3) (by first | rfl | assumption) (by omega) (by omega) (by decide) dX11_lookOf_24 rfl ?_
  rw [i2 145 (by decide), hM3.1.1 3 (by decide)]
  refine gj_imul (pc' := 26) dX11_lookOf_25 rfl ?_
  refine gj_icmp_ge (pc' := 29) (tgt := 123) dX11_lookOf_26 (by decide) rfl (by omega) (fun c26 => ?_) (fun c26 => ?_)
  · refine gj_iload_n (pc' := 124) dX11_lookOf_123 rfl rfl ?_
    refine gj_iret rfl dX11_lookOf_124 ?_
    have e : lkF T = LK T n := by
      by_cases z : nR T = 0
      · exact hend0 (by omega) z
      · exact hend (by omega) z
    rw [e]
    exact ⟨rfl, i1.trans r1, fun o o1 o2 o3 o4 o5 => (i2 o o1).trans (r2 o o1 o2 o3 o4 o5), fun k k1 k2 k3 => (i3 k k3).trans (r3 k k1 k2), i5⟩
  · refine gj_aload_n (pc' := 30) dX11_lookOf_29 rfl rfl ?_
    refine gf_X11_352 (pc' := 33) dX11_lookOf_30 rfl (by first | rfl | assumption) rfl ?_
    rw [i3 30 (by decide), f1, show cnt T (NC T) = nR T from rfl]
    refine gj_if_le (pc' := 36) (tgt := 123) dX11_lookOf_33 (by decide) rfl (by omega) (fun c33 => ?_) (fun c33 => ?_)
    · refine gj_iload_n (pc' := 124) dX11_lookOf_123 rfl rfl ?_
      refine gj_iret rfl dX11_lookOf_124 ?_
      have e : lkF T = LK T n := by
        by_cases z : nR T = 0
        · exact hend0 (by omega) z
        · exact hend (by omega) z
      rw [e]
      exact ⟨rfl, i1.trans r1, fun o o1 o2 o3 o4 o5 => (i2 o o1).trans (r2 o o1 o2 o3 o4 o5), fun k k1 k2 k3 => (i3 k k3).trans (r3 k k1 k2), i5⟩
    · refine gj_iconst (pc' := 37) dX11_lookOf_36 rfl ?_
      refine gj_istore_n (pc' := 38) dX11_lookOf_37 rfl (by decide) ?_
      refine gj_iconst (pc' := 39) dX11_lookOf_38 rfl ?_
      refine gj_istore (pc' := 41) dX11_lookOf_39 rfl (by decide) ?_
      refine gJ_wk (gJ_fI1 (L := fun q m => [some (.ref 142), some (.int (zI ((LK T n).1))), some (.int (zI (n : Int))), some (.int (zI m)), some (.int (zI (q : Int)))]) (I := fun q m => m = ((fN (fun q m => max m (tlN T (n / 41) (n % 41) q)) 0 q : Nat) : Int) ∧ n < 41 * T 3) (4) (fun q m hb_q iv_q ih_q => ?step_2) (0) (Nat.zero_le _) ?m0_2 ?iv0_2) ?ll0_2
      case ll0_2 =>
        repeat' (first | exact True.intro | with_reducible exact rfl | refine And.intro ?_ ?_ | refine vI ?_ | refine vL ?_)
        all_goals first | rfl | omega
      case iv0_2 =>
        exact ⟨rfl, by omega⟩
      obtain ⟨rfl, hn41⟩ := iv_q
      have hm : fN (fun q m => max m (tlN T (n / 41) (n % 41) q)) 0 q ≤ 512 := fN_inv (fun m => m ≤ 512) (Nat.zero_le _) q (fun q m _ hm => by
        have := htl (n / 41) (n % 41) q
        show max m (tlN T (n / 41) (n % 41) q) ≤ 512
        omega)
      have em : fN (fun q m => max m (tlN T (n / 41) (n % 41) q)) 0 (q + 1) = max (fN (fun q m => max m (tlN T (n / 41) (n % 41) q)) 0 q) (tlN T (n / 41) (n % 41) q) := rfl
      have hmq : q = 4 → fN (fun q m => max m (tlN T (n / 41) (n % 41) q)) 0 q = mxF T (n / 41) (n % 41) := fun z => by rw [z]; rfl
      have htq := htl (n / 41) (n % 41) q
      have hrd : q < 4 → hp.1 155 (4 * n + q) = (tlN T (n / 41) (n % 41) q : Int) := fun hq => by
        have := f3 (n / 41) (by omega) (n % 41) (by omega) q hq
        rw [show 41 * (n / 41) + n % 41 = n by omega] at this
        rw [i2 155 (by decide), this]
        rfl
      refine gj_iload (pc' := 43) dX11_lookOf_41 rfl rfl ?_
      refine gj_iconst (pc' := 44) dX11_lookOf_43 rfl ?_
      refine gj_icmp_gt (pc' := 47) (tgt := 84) dX11_lookOf_44 (by decide) rfl (by omega) (fun c44 => ?_) (fun c44 => ?_)
      · rw [hmq (by omega)]
        refine gj_iload_n (pc' := 85) dX11_lookOf_84 rfl rfl ?_
        refine gj_if_lt (pc' := 88) (tgt := 99) dX11_lookOf_85 (by decide) rfl (by omega) (fun c85 => ?_) (fun c85 => ?_)
        · refine gj_bipush (pc' := 101) dX11_lookOf_99 rfl (by decide) ?_
          refine gj_iload_n (pc' := 102) dX11_lookOf_101 rfl rfl ?_
          refine gj_bipush (pc' := 104) dX11_lookOf_102 rfl (by decide) ?_
          refine gj_idiv (pc' := 105) dX11_lookOf_104 rfl (by omega) (by omega) ?_
          rw [show (n : Int) / 41 = ((n / 41 : Nat) : Int) by omega]
          refine gj_imul (pc' := 106) dX11_lookOf_105 rfl ?_
          refine gj_iload_n (pc' := 107) dX11_lookOf_106 rfl rfl ?_
          refine gj_bipush (pc' := 109) dX11_lookOf_107 rfl (by decide) ?_
          refine gj_irem (pc' := 110) dX11_lookOf_109 rfl (by omega) (by omega) ?_
          rw [show (n : Int) % 41 = ((n % 41 : Nat) : Int) by omega]
          refine gj_iadd (pc' := 111) dX11_lookOf_110 rfl ?_
          refine gj_istore_n (pc' := 112) dX11_lookOf_111 rfl (by decide) ?_
          refine gj_aload_n (pc' := 113) dX11_lookOf_112 rfl rfl ?_
          refine gj_iload_n (pc' := 114) dX11_lookOf_113 rfl rfl ?_
          refine gp_X11_364 (pc' := 117) dX11_lookOf_114 rfl (by first | rfl | assumption) rfl ?_
          refine gj_iinc (pc' := 120) dX11_lookOf_117 rfl rfl (by decide) ?_
          refine gj_goto (pc' := 16) dX11_lookOf_120 (by decide) ?_
          refine gJ_wk (ih_n ?x_3 _ (by omega) ?iv_3) ?ll_3
          case ll_3 =>
            repeat' (first | exact True.intro | with_reducible exact rfl | refine And.intro ?_ ?_ | refine vI ?_ | refine vL ?_)
            all_goals omega
          by_cases hc : 0 ≤ (LK T n).1 ∧ (LK T n).2 ≤ (mxF T (n / 41) (n % 41) : Int)
          · rw [if_pos hc] at es
            rw [es]
            first
            | (exfalso; omega)
            | exact ⟨Or.inr (by omega), i1, i2, i3, rfl, i5⟩
          · rw [if_neg hc] at es
            rw [es]
            first
            | (exfalso; omega)
            | exact ⟨Or.inr (by omega), i1, fun o ho => (gui_n ho).trans (i2 o ho), fun k hk => by rw [gui_s, up1_n hk]; exact i3 k hk, rfl, by rw [gui_s, up1_s]⟩
        · refine gj_iload_n (pc' := 89) dX11_lookOf_88 rfl rfl ?_
          refine gj_aload_n (pc' := 90) dX11_lookOf_89 rfl rfl ?_
          refine gf_X11_364 (pc' := 93) dX11_lookOf_90 rfl (by first | rfl | assumption) rfl ?_
          rw [i5]
          refine gj_icmp_lt (pc' := 96) (tgt := 99) dX11_lookOf_93 (by decide) rfl (by omega) (fun c93 => ?_) (fun c93 => ?_)
          · refine gj_bipush (pc' := 101) dX11_lookOf_99 rfl (by decide) ?_
            refine gj_iload_n (pc' := 102) dX11_lookOf_101 rfl rfl ?_
            refine gj_bipush (pc' := 104) dX11_lookOf_102 rfl (by decide) ?_
            refine gj_idiv (pc' := 105) dX11_lookOf_104 rfl (by omega) (by omega) ?_
            rw [show (n : Int) / 41 = ((n / 41 : Nat) : Int) by omega]
            refine gj_imul (pc' := 106) dX11_lookOf_105 rfl ?_
            refine gj_iload_n (pc' := 107) dX11_lookOf_106 rfl rfl ?_
            refine gj_bipush (pc' := 109) dX11_lookOf_107 rfl (by decide) ?_
            refine gj_irem (pc' := 110) dX11_lookOf_109 rfl (by omega) (by omega) ?_
            rw [show (n : Int) % 41 = ((n % 41 : Nat) : Int) by omega]
            refine gj_iadd (pc' := 111) dX11_lookOf_110 rfl ?_
            refine gj_istore_n (pc' := 112) dX11_lookOf_111 rfl (by decide) ?_
            refine gj_aload_n (pc' := 113) dX11_lookOf_112 rfl rfl ?_
            refine gj_iload_n (pc' := 114) dX11_lookOf_113 rfl rfl ?_
            refine gp_X11_364 (pc' := 117) dX11_lookOf_114 rfl (by first | rfl | assumption) rfl ?_
            refine gj_iinc (pc' := 120) dX11_lookOf_117 rfl rfl (by decide) ?_
            refine gj_goto (pc' := 16) dX11_lookOf_120 (by decide) ?_
            refine gJ_wk (ih_n ?x_4 _ (by omega) ?iv_4) ?ll_4
            case ll_4 =>
              repeat' (first | exact True.intro | with_reducible exact rfl | refine And.intro ?_ ?_ | refine vI ?_ | refine vL ?_)
              all_goals omega
            by_cases hc : 0 ≤ (LK T n).1 ∧ (LK T n).2 ≤ (mxF T (n / 41) (n % 41) : Int)
            · rw [if_pos hc] at es
              rw [es]
              first
              | (exfalso; omega)
              | exact ⟨Or.inr (by omega), i1, i2, i3, rfl, i5⟩
            · rw [if_neg hc] at es
              rw [es]
              first
              | (exfalso; omega)
              | exact ⟨Or.inr (by omega), i1, fun o ho => (gui_n ho).trans (i2 o ho), fun k hk => by rw [gui_s, up1_n hk]; exact i3 k hk, rfl, by rw [gui_s, up1_s]⟩
          · refine gj_goto (pc' := 117) dX11_lookOf_96 (by decide) ?_
            refine gj_iinc (pc' := 120) dX11_lookOf_117 rfl rfl (by decide) ?_
            refine gj_goto (pc' := 16) dX11_lookOf_120 (by decide) ?_
            refine gJ_wk (ih_n ?x_5 _ (by omega) ?iv_5) ?ll_5
            case ll_5 =>
              repeat' (first | exact True.intro | with_reducible exact rfl | refine And.intro ?_ ?_ | refine vI ?_ | refine vL ?_)
              all_goals omega
            by_cases hc : 0 ≤ (LK T n).1 ∧ (LK T n).2 ≤ (mxF T (n / 41) (n % 41) : Int)
            · rw [if_pos hc] at es
              rw [es]
              first
              | (exfalso; omega)
              | exact ⟨Or.inr (by omega), i1, i2, i3, rfl, i5⟩
            · rw [if_neg hc] at es
              rw [es]
              first
              | (exfalso; omega)
              | exact ⟨Or.inr (by omega), i1, fun o ho => (gui_n ho).trans (i2 o ho), fun k hk => by rw [gui_s, up1_n hk]; exact i3 k hk, rfl, by rw [gui_s, up1_s]⟩
      · refine gj_aload_n (pc' := 48) dX11_lookOf_47 rfl rfl ?_
        refine gf_X11_50 (pc' := 51) dX11_lookOf_48 rfl (by first | rfl | assumption) rfl ?_
        refine gj_iconst (pc' := 52) dX11_lookOf_51 rfl ?_
        refine gj_iload_n (pc' := 53) dX11_lookOf_52 rfl rfl ?_
        refine gj_imul (pc' := 54) dX11_lookOf_53 rfl ?_
        refine gj_iload (pc' := 56) dX11_lookOf_54 rfl rfl ?_
        refine gj_iadd (pc' := 57) dX11_lookOf_56 rfl ?_
        refine gj_iald (pc' := 58) (j := 4 * n + q) (by first | rfl | assumption) (by omega) (by omega) (by decide) dX11_lookOf_57 rfl ?_
        rw [hrd (by omega)]
        refine gj_iload_n (pc' := 59) dX11_lookOf_58 rfl rfl ?_
        refine gj_icmp_le (pc' := 62) (tgt := 76) dX11_lookOf_59 (by decide) rfl (by omega) (fun c59 => ?_) (fun c59 => ?_)
        · refine gj_iload_n (pc' := 77) dX11_lookOf_76 rfl rfl ?_
          refine gj_istore_n (pc' := 78) dX11_lookOf_77 rfl (by decide) ?_
          refine gj_iinc (pc' := 81) dX11_lookOf_78 rfl rfl (by decide) ?_
          refine gj_goto (pc' := 41) dX11_lookOf_81 (by decide) ?_
          refine gJ_wk (ih_q ?m_6 (by omega) ?iv_6) ?ll_6
          case ll_6 =>
            repeat' (first | exact True.intro | with_reducible exact rfl | refine And.intro ?_ ?_ | refine vI ?_ | refine vL ?_)
            all_goals omega
          refine ⟨?_, hn41⟩
          rw [em]
          omega
        · refine gj_aload_n (pc' := 63) dX11_lookOf_62 rfl rfl ?_
          refine gf_X11_50 (pc' := 66) dX11_lookOf_63 rfl (by first | rfl | assumption) rfl ?_
          refine gj_iconst (pc' := 67) dX11_lookOf_66 rfl ?_
          refine gj_iload_n (pc' := 68) dX11_lookOf_67 rfl rfl ?_
          refine gj_imul (pc' := 69) dX11_lookOf_68 rfl ?_
          refine gj_iload (pc' := 71) dX11_lookOf_69 rfl rfl ?_
          refine gj_iadd (pc' := 72) dX11_lookOf_71 rfl ?_
          refine gj_iald (pc' := 73) (j := 4 * n + q) (by first | rfl | assumption) (by omega) (by omega) (by decide) dX11_lookOf_72 rfl ?_
          rw [hrd (by omega)]
          refine gj_goto (pc' := 77) dX11_lookOf_73 (by decide) ?_
          refine gj_istore_n (pc' := 78) dX11_lookOf_77 rfl (by decide) ?_
          refine gj_iinc (pc' := 81) dX11_lookOf_78 rfl rfl (by decide) ?_
          refine gj_goto (pc' := 41) dX11_lookOf_81 (by decide) ?_
          refine gJ_wk (ih_q ?m_7 (by omega) ?iv_7) ?ll_7
          case ll_7 =>
            repeat' (first | exact True.intro | with_reducible exact rfl | refine And.intro ?_ ?_ | refine vI ?_ | refine vL ?_)
            all_goals omega
          refine ⟨?_, hn41⟩
          rw [em]
          omega
theorem m_look {h : gH} {T S : Nat → Nat} (hQ : mQ h T S) : gSp 16 yX11_look cX11_look 1 (some .int) [.ref 142] h (qM (aTown T (lkF T).1).1 (aTown T (lkF T).1).2 h) := by
  obtain ⟨hA, hH, hZ, -⟩ := id hQ
  have hH2 : (mG h).1 142 14 = bI (decide (T 3 ≠ 0)) := hH
  refine gSp_of (by decide +kernel) (Nat.le_of_ble_eq_true rfl) ?_
  show gJ RX11 cX11_look 1 (some .int) _ 0 [some (.ref 142)] [] _ _
  refine gj_aload_n (pc' := 1) dX11_look_0 rfl rfl ?_
  refine gc_X11_153 (pc' := 4) dX11_look_1 rfl (m_good) rfl (by first | rfl | assumption) (by decide) rfl (Nat.le_of_ble_eq_true rfl) (fun v9 h9 q9 => ?_)
  obtain ⟨rfl, rfl⟩ := q9
  show gJ _ _ _ _ _ _ _ [] _ _
  refine gj_aload_n (pc' := 5) dX11_look_4 rfl rfl ?_
  refine gf_X11_166 (pc' := 8) dX11_look_5 rfl (by first | rfl | assumption) rfl ?_
  rw [hH2]
  first | refine gj_ifB_eq (pc' := 11) (tgt := 18) dX11_look_8 (by decide) rfl (fun c8 => ?_) (fun c8 => ?_) | refine gj_if_eq (pc' := 11) (tgt := 18) dX11_look_8 (by decide) rfl (by omega) (fun c8 => ?_) (fun c8 => ?_)
  · first | have g8 := of_decide_eq_true c8 | have g8 := of_decide_eq_false c8 | skip
    refine gj_aload_n (pc' := 19) dX11_look_18 rfl rfl ?_
    refine gj_iconst (pc' := 20) dX11_look_19 rfl ?_
    refine gc_X11_156 (pc' := 23) dX11_look_20 rfl (m_no) rfl (by first | rfl | assumption) (by decide) rfl (Nat.le_of_ble_eq_true rfl) (fun v9 h9 q9 => ?_)
    obtain ⟨rfl, rfl⟩ := q9
    show gJ _ _ _ _ _ _ _ (.int (zI (-1)) :: _) _ _
    refine gj_iret rfl dX11_look_23 ?_
    first
    | exact qM_n (by unfold aTown; rw [if_neg (by omega)])
    | exact qM_i (tr := 0) (by unfold aTown; rw [if_pos (by omega)]) (MS.seek3 r1 r2 r3) ((r3 11 (by decide) (by decide) (by decide)).trans rfl)
  · first | have g8 := of_decide_eq_true c8 | have g8 := of_decide_eq_false c8 | skip
    have hM : MI (mG h) T S := hQ.mi (by omega)
    refine gj_aload_n (pc' := 12) dX11_look_11 rfl rfl ?_
    refine gc_X11_367 (pc' := 15) dX11_look_12 rfl (m_lookOf hM) rfl (by first | rfl | assumption) (by decide) rfl (Nat.le_of_ble_eq_true rfl) (fun v9 h9 q9 => ?_)
    obtain ⟨rfl, r1, r2, r3, r4⟩ := q9
    obtain ⟨hd, rfl⟩ : ∃ x, x = h9 := ⟨h9, rfl⟩
    show gJ _ _ _ _ _ _ _ [.int (zI _)] _ _
    refine gj_goto (pc' := 23) dX11_look_15 (by decide) ?_
    refine gj_iret rfl dX11_look_23 ?_
    first
    | exact qM_n (by unfold aTown; rw [if_neg (by omega)])
    | exact qM_i (tr := 0) (by unfold aTown; rw [if_pos (by omega)]) (MS.seek3 r1 r2 r3) ((r3 11 (by decide) (by decide) (by decide)).trans rfl)
theorem m_lookLeaves {h : gH} {T S : Nat → Nat} (hQ : mQ h T S) : gSp 16 yX11_lookLeaves cX11_lookLeaves 1 (some .int) [.ref 142] h (qM (aTown T (lkF T).2).1 (aTown T (lkF T).2).2 h) := by
  obtain ⟨hA, hH, hZ, -⟩ := id hQ
  have hH2 : (mG h).1 142 14 = bI (decide (T 3 ≠ 0)) := hH
  refine gSp_of (by decide +kernel) (Nat.le_of_ble_eq_true rfl) ?_
  show gJ RX11 cX11_lookLeaves 1 (some .int) _ 0 [some (.ref 142)] [] _ _
  refine gj_aload_n (pc' := 1) dX11_lookLeaves_0 rfl rfl ?_
  refine gc_X11_153 (pc' := 4) dX11_lookLeaves_1 rfl (m_good) rfl (by first | rfl | assumption) (by decide) rfl (Nat.le_of_ble_eq_true rfl) (fun v9 h9 q9 => ?_)
  obtain ⟨rfl, rfl⟩ := q9
  show gJ _ _ _ _ _ _ _ [] _ _
  refine gj_aload_n (pc' := 5) dX11_lookLeaves_4 rfl rfl ?_
  refine gf_X11_166 (pc' := 8) dX11_lookLeaves_5 rfl (by first | rfl | assumption) rfl ?_
  rw [hH2]
  first | refine gj_ifB_ne (pc' := 11) (tgt := 17) dX11_lookLeaves_8 (by decide) rfl (fun c8 => ?_) (fun c8 => ?_) | refine gj_if_ne (pc' := 11) (tgt := 17) dX11_lookLeaves_8 (by decide) rfl (by omega) (fun c8 => ?_) (fun c8 => ?_)
  · first | have g8 := of_decide_eq_true c8 | have g8 := of_decide_eq_false c8 | skip
    have hM : MI (mG h) T S := hQ.mi (by omega)
    refine gj_aload_n (pc' := 18) dX11_lookLeaves_17 rfl rfl ?_
    refine gc_X11_367 (pc' := 21) dX11_lookLeaves_18 rfl (m_lookOf hM) rfl (by first | rfl | assumption) (by decide) rfl (Nat.le_of_ble_eq_true rfl) (fun v9 h9 q9 => ?_)
    obtain ⟨rfl, r1, r2, r3, r4⟩ := q9
    obtain ⟨hd, rfl⟩ : ∃ x, x = h9 := ⟨h9, rfl⟩
    show gJ _ _ _ _ _ _ _ [.int (zI _)] _ _
    refine gj_pop (pc' := 22) dX11_lookLeaves_21 rfl rfl ?_
    refine gj_aload_n (pc' := 23) dX11_lookLeaves_22 rfl rfl ?_
    refine gf_X11_364 (pc' := 26) dX11_lookLeaves_23 rfl (by first | rfl | assumption) rfl ?_
    rw [r4]
    refine gj_iret rfl dX11_lookLeaves_26 ?_
    exact qM_i (tr := 0) (by unfold aTown; rw [if_pos (by omega)]) (MS.seek3 r1 r2 r3) ((r3 11 (by decide) (by decide) (by decide)).trans rfl)
  · first | have g8 := of_decide_eq_true c8 | have g8 := of_decide_eq_false c8 | skip
    refine gj_aload_n (pc' := 12) dX11_lookLeaves_11 rfl rfl ?_
    refine gj_iconst (pc' := 13) dX11_lookLeaves_12 rfl ?_
    refine gc_X11_156 (pc' := 16) dX11_lookLeaves_13 rfl (m_no) rfl (by first | rfl | assumption) (by decide) rfl (Nat.le_of_ble_eq_true rfl) (fun v9 h9 q9 => ?_)
    obtain ⟨rfl, rfl⟩ := q9
    show gJ _ _ _ _ _ _ _ (.int (zI (-1)) :: _) _ _
    refine gj_iret rfl dX11_lookLeaves_16 ?_
    exact qM_n (by unfold aTown; rw [if_neg (by omega)])
theorem m_judge {h : gH} {T S : Nat → Nat} (hQ : mQ h T S) : gSp 16 yX11_judge cX11_judge 2 (some .int) [.ref 142] h (qM (aTown T (aJudge T)).1 (aTown T (aJudge T)).2 h) := by
  obtain ⟨hA, hH, hZ, -⟩ := id hQ
  have hH2 : (mG h).1 142 14 = bI (decide (T 3 ≠ 0)) := hH
  refine gSp_of (by decide +kernel) (Nat.le_of_ble_eq_true rfl) ?_
  show gJ RX11 cX11_judge 2 (some .int) _ 0 [some (.ref 142), none] [] _ _
  refine gj_aload_n (pc' := 1) dX11_judge_0 rfl rfl ?_
  refine gc_X11_153 (pc' := 4) dX11_judge_1 rfl (m_good) rfl (by first | rfl | assumption) (by decide) rfl (Nat.le_of_ble_eq_true rfl) (fun v9 h9 q9 => ?_)
  obtain ⟨rfl, rfl⟩ := q9
  show gJ _ _ _ _ _ _ _ [] _ _
  refine gj_aload_n (pc' := 5) dX11_judge_4 rfl rfl ?_
  refine gf_X11_166 (pc' := 8) dX11_judge_5 rfl (by first | rfl | assumption) rfl ?_
  rw [hH2]
  first | refine gj_ifB_ne (pc' := 11) (tgt := 17) dX11_judge_8 (by decide) rfl (fun c8 => ?_) (fun c8 => ?_) | refine gj_if_ne (pc' := 11) (tgt := 17) dX11_judge_8 (by decide) rfl (by omega) (fun c8 => ?_) (fun c8 => ?_)
  · first | have g8 := of_decide_eq_true c8 | have g8 := of_decide_eq_false c8 | skip
    have hM : MI (mG h) T S := hQ.mi (by omega)
    obtain ⟨hA2, hT, hS⟩ := id hM
    have h3 := hT.2.2.2.1
    have h6 : T 6 ≤ 5 := hT.2.2.2.2.2.2.1
    have hAA : MA (mG h) T S := hA2
    refine gj_iconst (pc' := 18) dX11_judge_17 rfl ?_
    refine gj_istore_n (pc' := 19) dX11_judge_18 rfl (by decide) ?_
    refine gJ_wk (gJ_fH0 (L := fun k  => [some (.ref 142), some (.int (zI (k : Int)))]) (I := fun k  hp => hp = mG h ∧ fstN (fun k => decide (T (62 + 3 * k) < knN T k)) k = -2) (T 6) (fun k  hp hb_k iv_k ih_k => ?step_1) (0) (Nat.zero_le _)  _ ?iv0_1) ?ll0_1
    case ll0_1 =>
      repeat' (first | exact True.intro | with_reducible exact rfl | refine And.intro ?_ ?_ | refine vI ?_ | refine vL ?_)
      all_goals first | rfl | omega
    case iv0_1 =>
      exact ⟨rfl, rfl⟩
    obtain ⟨rfl, i2⟩ := iv_k
    have es := fstN_s (fun k => decide (T (62 + 3 * k) < knN T k)) k
    have hkn := knN_le hT k
    have h11 := fun q : k < T 6 => hT.2.2.2.2.2.2.2.2.2.2 k q
    refine gj_iload_n (pc' := 20) dX11_judge_19 rfl rfl ?_
    refine gj_aload_n (pc' := 21) dX11_judge_20 rfl rfl ?_
    refine gf_X11_20 (pc' := 24) dX11_judge_21 rfl (by first | rfl | assumption) rfl ?_
    refine gj_bipush (pc' := 26) dX11_judge_24 rfl (by decide) ?_
    refine gj_iald (pc' := 27) (j := 6) (by first | rfl | assumption) (by omega) (by omega) (by decide) dX11_judge_26 rfl ?_
    rw [hAA.1 6 (by decide)]
    refine gj_icmp_ge (pc' := 30) (tgt := 82) dX11_judge_27 (by decide) rfl (by omega) (fun c27 => ?_) (fun c27 => ?_)
    · refine gj_bipush (pc' := 84) dX11_judge_82 rfl (by decide) ?_
      refine gj_iret rfl dX11_judge_84 ?_
      rw [show k = T 6 by omega] at i2
      exact qM_g (by unfold aTown aJudge; rw [if_pos (by omega), i2])
    · refine gj_aload_n (pc' := 31) dX11_judge_30 rfl rfl ?_
      refine gf_X11_20 (pc' := 34) dX11_judge_31 rfl (by first | rfl | assumption) rfl ?_
      refine gj_bipush (pc' := 36) dX11_judge_34 rfl (by decide) ?_
      refine gj_iconst (pc' := 37) dX11_judge_36 rfl ?_
      refine gj_iload_n (pc' := 38) dX11_judge_37 rfl rfl ?_
      refine gj_imul (pc' := 39) dX11_judge_38 rfl ?_
      refine gj_iadd (pc' := 40) dX11_judge_39 rfl ?_
      refine gj_iconst (pc' := 41) dX11_judge_40 rfl ?_
      refine gj_iadd (pc' := 42) dX11_judge_41 rfl ?_
      refine gj_iald (pc' := 43) (j := 62 + 3 * k) (by first | rfl | assumption) (by omega) (by omega) (by decide) dX11_judge_42 rfl ?_
      rw [hAA.1 _ (by omega)]
      refine gj_aload_n (pc' := 44) dX11_judge_43 rfl rfl ?_
      refine gj_aload_n (pc' := 45) dX11_judge_44 rfl rfl ?_
      refine gf_X11_20 (pc' := 48) dX11_judge_45 rfl (by first | rfl | assumption) rfl ?_
      refine gj_bipush (pc' := 50) dX11_judge_48 rfl (by decide) ?_
      refine gj_iconst (pc' := 51) dX11_judge_50 rfl ?_
      refine gj_iload_n (pc' := 52) dX11_judge_51 rfl rfl ?_
      refine gj_imul (pc' := 53) dX11_judge_52 rfl ?_
      refine gj_iadd (pc' := 54) dX11_judge_53 rfl ?_
      refine gj_iald (pc' := 55) (j := 60 + 3 * k) (by first | rfl | assumption) (by omega) (by omega) (by decide) dX11_judge_54 rfl ?_
      rw [hAA.1 _ (by omega)]
      refine gj_aload_n (pc' := 56) dX11_judge_55 rfl rfl ?_
      refine gf_X11_20 (pc' := 59) dX11_judge_56 rfl (by first | rfl | assumption) rfl ?_
      refine gj_bipush (pc' := 61) dX11_judge_59 rfl (by decide) ?_
      refine gj_iconst (pc' := 62) dX11_judge_61 rfl ?_
      refine gj_iload_n (pc' := 63) dX11_judge_62 rfl rfl ?_
      refine gj_imul (pc' := 64) dX11_judge_63 rfl ?_
      refine gj_iadd (pc' := 65) dX11_judge_64 rfl ?_
      refine gj_iconst (pc' := 66) dX11_judge_65 rfl ?_
      refine gj_iadd (pc' := 67) dX11_judge_66 rfl ?_
      refine gj_iald (pc' := 68) (j := 61 + 3 * k) (by first | rfl | assumption) (by omega) (by omega) (by decide) dX11_judge_67 rfl ?_
      rw [hAA.1 _ (by omega)]
      have h11k := h11 (by omega)
      refine gr_X11_346 (pc' := 71) dX11_judge_68 rfl (m_satOn hM (by omega) (by omega)) rfl (by first | rfl | assumption) (by decide) rfl (Nat.le_of_ble_eq_true rfl) ?_
      rw [show sN (satN T (T (60 + 3 * k)) (T (61 + 3 * k))) (T 4) = knN T k from rfl]
      refine gj_icmp_ge (pc' := 74) (tgt := 76) dX11_judge_71 (by decide) rfl (by omega) (fun c71 => ?_) (fun c71 => ?_)
      · refine gj_iinc (pc' := 79) dX11_judge_76 rfl rfl (by decide) ?_
        refine gj_goto (pc' := 19) dX11_judge_79 (by decide) ?_
        refine gJ_wk (ih_k  _ (by omega) ?iv_2) ?ll_2
        case ll_2 =>
          repeat' (first | exact True.intro | with_reducible exact rfl | refine And.intro ?_ ?_ | refine vI ?_ | refine vL ?_)
          all_goals omega
        refine ⟨rfl, es.trans ?_⟩
        rw [if_neg]
        · exact i2
        · intro z
          have z2 := z.2
          rw [decide_eq_true_eq] at z2
          omega
      · refine gj_iload_n (pc' := 75) dX11_judge_74 rfl rfl ?_
        refine gj_iret rfl dX11_judge_75 ?_
        exact qM_g (by unfold aTown aJudge; rw [if_pos (by omega), fstN_hit (p := fun k => decide (T (62 + 3 * k) < knN T k)) i2 (decide_eq_true (by omega)) (by omega)])
  · first | have g8 := of_decide_eq_true c8 | have g8 := of_decide_eq_false c8 | skip
    refine gj_aload_n (pc' := 12) dX11_judge_11 rfl rfl ?_
    refine gj_iconst (pc' := 13) dX11_judge_12 rfl ?_
    refine gc_X11_156 (pc' := 16) dX11_judge_13 rfl (m_no) rfl (by first | rfl | assumption) (by decide) rfl (Nat.le_of_ble_eq_true rfl) (fun v9 h9 q9 => ?_)
    obtain ⟨rfl, rfl⟩ := q9
    show gJ _ _ _ _ _ _ _ (.int (zI (-1)) :: _) _ _
    refine gj_iret rfl dX11_judge_16 ?_
    exact qM_n (by unfold aTown; rw [if_neg (by omega)])
