/-! the law: feed, loft, fault, where, size, trouble -/
theorem MST.kk {h h' : gH} {T : Nat → Nat} {s : gSt} (a : MST h T s) (e : ∀ o, o = 145 ∨ o = 147 ∨ o = 148 ∨ o = 149 → h'.1 o = h.1 o) (k : ∀ k, k = 14 ∨ k = 20 ∨ k = 21 → h'.1 142 k = h.1 142 k) : MST h' T s := by
  obtain ⟨⟨⟨y1, y2⟩, y3, y4⟩, y5, y6⟩ := a
  exact ⟨⟨⟨fun k hk => by rw [e 145 (Or.inl rfl)]; exact y1 k hk, fun k hk => by rw [e 147 (Or.inr (Or.inl rfl))]; exact y2 k hk⟩, by rw [k 14 (Or.inl rfl)]; exact y3, y4⟩, y5.to (k 20 (Or.inr (Or.inl rfl))) (k 21 (Or.inr (Or.inr rfl))) (e 148 (Or.inr (Or.inr (Or.inl rfl)))) (e 149 (Or.inr (Or.inr (Or.inr rfl)))), y6⟩
theorem LInv.f {h h1 h2 : gH} {t n n' : Nat} {T B B' : Nat → Nat} {s : gSt} {q : Nat} (a : LInv h t n T B s q) (e2 : h1.2 = h.2) (eo : ∀ o, o ≠ 2 → o ≠ 3 → h1.1 o = h.1 o) (hx : RX h1 n' B') (f2 : h2.2 = h1.2) (fo : ∀ o, o ≠ 142 → o ≠ 143 → h2.1 o = h1.1 o) (fk : ∀ k, k ≠ 0 → k ≠ 2 → h2.1 142 k = h1.1 142 k) (hm : RM h2 n' B') : LI2 h2 := by
  obtain ⟨a1, a2, a3, a4, a5, a6, a7, ⟨a81, a82, a83⟩, a9, a10⟩ := a
  have ht : t = 6 ∨ t = 29 := a1.1.1
  have d0 : ∀ o, o ≠ 2 → o ≠ 3 → o ≠ 142 → o ≠ 143 → h2.1 o = h.1 o := fun o o1 o2 o3 o4 => (fo o o3 o4).trans (eo o o1 o2)
  have dk : ∀ k, k ≠ 0 → k ≠ 2 → h2.1 142 k = h.1 142 k := fun k k1 k2 => by rw [fk k k1 k2, eo 142 (by decide) (by decide)]
  have g2 : h2.2 = h.2 := f2.trans e2
  refine ⟨t, n', T, B', s, q, ⟨a1.1.to g2 (fun o o1 o2 => d0 o (by omega) (by omega) (by omega) (by omega)) (fun o o1 o2 => d0 o (by omega) (by omega) (by omega) (by omega)), a1.2.1.to (fun o o1 o2 => d0 o (by omega) (by omega) (by omega) (by omega)), a1.2.2⟩, a2.kk (fun o ho => d0 o (by omega) (by omega) (by omega) (by omega)) (fun k hk => dk k (by omega) (by omega)), fun h3 => (a3 h3).to (a1.tv h3) (fun o o1 o2 => d0 o (by omega) (by omega) (by omega) (by omega)), a4.to (d0 t (by omega) (by omega) (by omega) (by omega)) (d0 _ (by omega) (by omega) (by omega) (by omega)) (d0 52 (by decide) (by decide) (by decide) (by decide)), hx.to (fo 2 (by decide) (by decide)) (fo 3 (by decide) (by decide)), hm, by rw [g2]; exact a7, ⟨by rw [d0 0 (by decide) (by decide) (by decide) (by decide)]; exact a81, by rw [dk 11 (by decide) (by decide)]; exact a82, a83⟩, by rw [d0 0 (by decide) (by decide) (by decide) (by decide), dk 9 (by decide) (by decide)]; exact a9, fun z => by rw [d0 0 (by decide) (by decide) (by decide) (by decide), dk 10 (by decide) (by decide)]; exact a10 z⟩
theorem RX_0 {h : gH} {B : Nat → Nat} (e : h.1 2 1 = 0) : RX h 0 B := ⟨Nat.zero_le _, e, fun j hj => absurd hj (Nat.not_lt_zero j)⟩
theorem RM_0 {h : gH} {B : Nat → Nat} (e : h.1 142 2 = 0) : RM h 0 B := ⟨Nat.zero_le _, e, fun j hj => absurd hj (Nat.not_lt_zero j)⟩
theorem LInv.l1 {h h1 h2 : gH} {t n m : Nat} {T B : Nat → Nat} {s : gSt} {q : Nat} (a : LInv h t n T B s q) (x2 : h1.2.2 = h.2.2) (xo : ∀ o, o ≠ 0 → o ≠ 1 → o ≠ 2 → o ≠ 5 → (o < 35 - t ∨ 35 - t + 22 < o) → o ≠ 28 → o ≠ 51 → (o < 135 ∨ 142 ≤ o) → h1.1 o = h.1 o) (x21 : h1.1 2 1 = 0) (x7 : h1.1 0 7 = ((rdR B m).1 : Int)) (x8 : h1.1 0 8 = ((rdR B m).2.1 : Int)) (x9 : h1.1 0 9 = 4) (m2 : h2.2 = h1.2) (mo : ∀ o, o ≠ 142 → o ≠ 144 → o ≠ 146 → h2.1 o = h1.1 o) (mk : ∀ k, k = 14 ∨ k = 20 ∨ k = 21 → h2.1 142 k = h1.1 142 k) (mz2 : h2.1 142 2 = 0) (m9 : h2.1 142 9 = ((rdR B m).1 : Int)) (m10 : h2.1 142 10 = ((rdR B m).2.1 : Int)) (m11 : h2.1 142 11 = 4) : LI2 h2 := by
  obtain ⟨a1, a2, a3, a4, a5, a6, a7, ⟨a81, a82, a83⟩, a9, a10⟩ := a
  have ht : t = 6 ∨ t = 29 := a1.1.1
  have c0 : ∀ o, o < 142 → h2.1 o = h1.1 o := fun o ho => mo o (by omega) (by omega) (by omega)
  have dT : ∀ o, t ≤ o → o ≤ t + 21 → h2.1 o = h.1 o := fun o o1 o2 => (c0 o (by omega)).trans (xo o (by omega) (by omega) (by omega) (by omega) (by omega) (by omega) (by omega) (by omega))
  have dP : ∀ o, 52 ≤ o → o ≤ 134 → h2.1 o = h.1 o := fun o o1 o2 => (c0 o (by omega)).trans (xo o (by omega) (by omega) (by omega) (by omega) (by omega) (by omega) (by omega) (by omega))
  have dM : ∀ o, o = 145 ∨ o = 147 ∨ o = 148 ∨ o = 149 → h2.1 o = h.1 o := fun o ho => (mo o (by omega) (by omega) (by omega)).trans (xo o (by omega) (by omega) (by omega) (by omega) (by omega) (by omega) (by omega) (by omega))
  have g0 : h2.2.2 = h.2.2 := by rw [m2]; exact x2
  refine ⟨t, 0, T, B, s, 4, ⟨?_, ?_, a1.2.2⟩, a2.kk dM (fun k hk => by rw [mk k hk, xo 142 (by decide) (by decide) (by decide) (by decide) (by omega) (by decide) (by decide) (by decide)]), fun h3 => (a3 h3).to (a1.tv h3) (fun o o1 o2 => dT o (by omega) (by omega)), a4.to (dT t (by omega) (by omega)) (dT _ (by omega) (by omega)) (dP 52 (by decide) (by decide)), RX_0 (by rw [c0 2 (by decide)]; exact x21), RM_0 mz2, by rw [g0]; exact a7, ⟨by rw [c0 0 (by decide)]; exact x9, m11, by decide⟩, by rw [c0 0 (by decide), x7, m9], fun _ => by rw [c0 0 (by decide), x8, m10]⟩
  · obtain ⟨z1, z2, ⟨z3, z4, z5⟩, z6, z7⟩ := a1.1
    refine ⟨z1, by rw [g0]; exact z2, ⟨by rw [dT t (by omega) (by omega)]; exact z3, by rw [dT t (by omega) (by omega)]; exact z4, by rw [dT (t + 10) (by omega) (by omega)]; exact z5⟩, z6, ?_⟩
    rcases z7 with z7 | ⟨y1, y2, y3, y4, y5, y6, y7⟩
    · exact Or.inl z7
    · obtain ⟨p0, p1, p2, p3, p4⟩ := y7
      exact Or.inr ⟨y1, by rw [g0]; exact y2, y3, y4, y5.to (fun o o1 o2 => dT o (by omega) (by omega)), y6.to (dT _ (by omega) (by omega)) (dT _ (by omega) (by omega)), ⟨by rw [dP 52 (by decide) (by decide)]; exact p0, by rw [dP 52 (by decide) (by decide)]; exact p1, by rw [dP 52 (by decide) (by decide)]; exact p2, fun k hk => by rw [dP 53 (by decide) (by decide), dP 54 (by decide) (by decide)]; exact p3 k hk, fun b hb => by rw [dP 55 (by decide) (by decide)]; exact p4 b hb⟩⟩
  · exact a1.2.1.to (fun o o1 o2 => dP o (by omega) o2)
theorem LInv.l2 {h1 h2 : gH} {t : Nat} {T B : Nat → Nat} {s : gSt} (ht : isT t) (x0 : h1.2.2 1 = 35 - t) (x21 : h1.1 2 1 = 0) (x7 : h1.1 0 7 = 0) (x9 : h1.1 0 9 = 0) (xX : XST h1 t T s) (xS : StrI h1 t T) (xZ : SZ h1 t T s.1) (m2 : h2.2 = h1.2) (mo : ∀ o, o ≠ 142 → o ≠ 144 → o ≠ 145 → o ≠ 146 → o ≠ 147 → h2.1 o = h1.1 o) (mz2 : h2.1 142 2 = 0) (m9 : h2.1 142 9 = 0) (m11 : h2.1 142 11 = 0) (mM : MST h2 T s) : LI2 h2 := by
  have htt : t = 6 ∨ t = 29 := ht
  have c0 : ∀ o, o < 142 → h2.1 o = h1.1 o := fun o ho => mo o (by omega) (by omega) (by omega) (by omega) (by omega)
  exact ⟨t, 0, T, B, s, 0, xX.lo m2 c0, mM, fun h3 => xS.to (xX.tv h3) (fun o o1 o2 => c0 o (by omega)), xZ.to (c0 t (by omega)) (c0 _ (by omega)) (c0 52 (by decide)), RX_0 (by rw [c0 2 (by decide)]; exact x21), RM_0 mz2, by rw [m2]; exact x0, ⟨by rw [c0 0 (by decide)]; exact x9, m11, by decide⟩, by rw [c0 0 (by decide), x7, m9], fun z => absurd z (by decide)⟩
theorem lo_X10_fault : gOkM yX10_fault 0 := ⟨by decide +kernel, by decide +kernel, by decide +kernel⟩
theorem lc_X10_fault : Cond.code yX10_fault cX10_fault 1 (some .int) ∈ gtb := (gtb_at 647 (by decide +kernel) rfl)
theorem lo_X11_fault : gOkM yX11_fault 0 := ⟨by decide +kernel, by decide +kernel, by decide +kernel⟩
theorem lc_X11_fault : Cond.code yX11_fault cX11_fault 1 (some .int) ∈ gtb := (gtb_at 1517 (by decide +kernel) rfl)
theorem lo_X10_where : gOkM yX10_where 0 := ⟨by decide +kernel, by decide +kernel, by decide +kernel⟩
theorem lc_X10_where : Cond.code yX10_where cX10_where 1 (some .int) ∈ gtb := (gtb_at 651 (by decide +kernel) rfl)
theorem lo_X11_where : gOkM yX11_where 0 := ⟨by decide +kernel, by decide +kernel, by decide +kernel⟩
theorem lc_X11_where : Cond.code yX11_where cX11_where 1 (some .int) ∈ gtb := (gtb_at 1521 (by decide +kernel) rfl)
theorem lo_X10_size : gOkM yX10_size 1 := ⟨by decide +kernel, by decide +kernel, by decide +kernel⟩
theorem lc_X10_size : Cond.code yX10_size cX10_size 2 (some .int) ∈ gtb := (gtb_at 1190 (by decide +kernel) rfl)
theorem lo_X11_size : gOkM yX11_size 1 := ⟨by decide +kernel, by decide +kernel, by decide +kernel⟩
theorem lc_X11_size : Cond.code yX11_size cX11_size 2 (some .int) ∈ gtb := (gtb_at 1914 (by decide +kernel) rfl)
theorem lo_X10_trouble : gOkM yX10_trouble 0 := ⟨by decide +kernel, by decide +kernel, by decide +kernel⟩
theorem lc_X10_trouble : Cond.code yX10_trouble cX10_trouble 1 (some .int) ∈ gtb := (gtb_at 1194 (by decide +kernel) rfl)
theorem lo_X11_trouble : gOkM yX11_trouble 0 := ⟨by decide +kernel, by decide +kernel, by decide +kernel⟩
theorem lc_X11_trouble : Cond.code yX11_trouble cX11_trouble 1 (some .int) ∈ gtb := (gtb_at 1918 (by decide +kernel) rfl)
theorem lo_X10_feed : gOkM yX10_feed 5 := ⟨by decide +kernel, by decide +kernel, by decide +kernel⟩
theorem lc_X10_feed : Cond.code yX10_feed cX10_feed 7 (some .int) ∈ gtb := (gtb_at 389 (by decide +kernel) rfl)
theorem lo_X11_feed : gOkM yX11_feed 5 := ⟨by decide +kernel, by decide +kernel, by decide +kernel⟩
theorem lc_X11_feed : Cond.code yX11_feed cX11_feed 8 (some .int) ∈ gtb := (gtb_at 1388 (by decide +kernel) rfl)
theorem lo_X10_loft : gOkM yX10_loft 1 := ⟨by decide +kernel, by decide +kernel, by decide +kernel⟩
theorem lc_X10_loft : Cond.code yX10_loft cX10_loft 4 (some .int) ∈ gtb := (gtb_at 397 (by decide +kernel) rfl)
theorem lo_X11_loft : gOkM yX11_loft 1 := ⟨by decide +kernel, by decide +kernel, by decide +kernel⟩
theorem lc_X11_loft : Cond.code yX11_loft cX11_loft 3 (some .int) ∈ gtb := (gtb_at 1392 (by decide +kernel) rfl)
theorem lk_2 {L : Nat} {xs : Nat → Int32} {κ σ i : Nat} {h : gH} (hi : i + 6 ≤ L) (hL3 : L ≤ 3072) (hκ : κ + 2 ≤ 601024) (hσ : σ + 20 ≤ 7293034) (hI : LI2 h) (K : ∀ h', LI2 h' → gK L xs (κ + 2) (σ + 20) 1882 [some (.ref 2000), some (.ref 0), some (.ref 142), some (.ref 156), some (.int (zI (i : Int))), none, none] [] h') : gK L xs κ σ 378 [some (.ref 2000), some (.ref 0), some (.ref 142), some (.ref 156), some (.int (zI (i : Int))), none, none] [] h := by
  obtain ⟨t, n, T, B, s, q, hI⟩ := hI
  refine gk_aload_n (pc' := 379) dL_law_378 rfl rfl ?_
  refine gk_callV (C := RX10) (ci := 9) (rest := []) (x_fault) lo_X10_fault (gtb_at 644 (by decide +kernel) rfl) (gtb_at 645 (by decide +kernel) rfl) (gtb_at 646 (by decide +kernel) rfl) (gtb_at 1 (by decide +kernel) rfl) lc_X10_fault (by decide) rfl rfl (by decide) (by omega) (by omega) rfl (Nat.le_of_ble_eq_true rfl) dL_law_379 rfl (fun v9 h1 q1 => ?_)
  obtain ⟨rfl, e1⟩ := q1
  rw [e1]
  clear e1
  show gK _ _ _ _ _ _ [.int (zI _)] _
  refine gk_aload_n (pc' := 383) dL_law_382 rfl rfl ?_
  refine gk_callV (C := RX11) (ci := 10) (rest := [.int (zI _)]) (m_fault) lo_X11_fault (gtb_at 1514 (by decide +kernel) rfl) (gtb_at 1515 (by decide +kernel) rfl) (gtb_at 1516 (by decide +kernel) rfl) (gtb_at 11 (by decide +kernel) rfl) lc_X11_fault (by decide) rfl rfl (by decide) (by omega) (by omega) rfl (Nat.le_of_ble_eq_true rfl) dL_law_383 rfl (fun v9 h2 q2 => ?_)
  obtain ⟨rfl, e2⟩ := q2
  rw [e2]
  clear e2
  show gK _ _ _ _ _ _ [.int (zI _), .int (zI _)] _
  refine gk_same (tgt := 1882) dL_law_386 (by decide) (hI.2.2.2.2.2.2.2.2.1) ?_
  exact gk_widen (by omega) (by omega) (K _ hI.t)
theorem lk_3 {L : Nat} {xs : Nat → Int32} {κ σ i : Nat} {h : gH} (hi : i + 6 ≤ L) (hL3 : L ≤ 3072) (hκ : κ + 2 ≤ 601024) (hσ : σ + 20 ≤ 7293034) (hI : LI2 h) (K : ∀ h', LI2 h' → gK L xs (κ + 2) (σ + 20) 1882 [some (.ref 2000), some (.ref 0), some (.ref 142), some (.ref 156), some (.int (zI (i : Int))), none, none] [] h') : gK L xs κ σ 391 [some (.ref 2000), some (.ref 0), some (.ref 142), some (.ref 156), some (.int (zI (i : Int))), none, none] [] h := by
  obtain ⟨t, n, T, B, s, q, hI⟩ := hI
  refine gk_aload_n (pc' := 392) dL_law_391 rfl rfl ?_
  refine gk_callV (C := RX10) (ci := 9) (rest := []) (x_where hI.2.2.2.2.2.2.2.1.1 hI.2.2.2.2.2.2.2.1.2.2) lo_X10_where (gtb_at 648 (by decide +kernel) rfl) (gtb_at 649 (by decide +kernel) rfl) (gtb_at 650 (by decide +kernel) rfl) (gtb_at 1 (by decide +kernel) rfl) lc_X10_where (by decide) rfl rfl (by decide) (by omega) (by omega) rfl (Nat.le_of_ble_eq_true rfl) dL_law_392 rfl (fun v9 h1 q1 => ?_)
  obtain ⟨rfl, e1⟩ := q1
  rw [e1]
  clear e1
  show gK _ _ _ _ _ _ [.int (zI _)] _
  refine gk_aload_n (pc' := 396) dL_law_395 rfl rfl ?_
  refine gk_callV (C := RX11) (ci := 10) (rest := [.int (zI _)]) (m_where hI.2.2.2.2.2.2.2.1.2.1 hI.2.2.2.2.2.2.2.1.2.2) lo_X11_where (gtb_at 1518 (by decide +kernel) rfl) (gtb_at 1519 (by decide +kernel) rfl) (gtb_at 1520 (by decide +kernel) rfl) (gtb_at 11 (by decide +kernel) rfl) lc_X11_where (by decide) rfl rfl (by decide) (by omega) (by omega) rfl (Nat.le_of_ble_eq_true rfl) dL_law_396 rfl (fun v9 h2 q2 => ?_)
  obtain ⟨rfl, e2⟩ := q2
  rw [e2]
  clear e2
  show gK _ _ _ _ _ _ [.int (zI _), .int (zI _)] _
  refine gk_same (tgt := 1882) dL_law_399 (by decide) (by
      by_cases z : q = 4
      · rw [if_pos z, if_pos z]
        exact hI.2.2.2.2.2.2.2.2.2 z
      · rw [if_neg z, if_neg z]) ?_
  exact gk_widen (by omega) (by omega) (K _ hI.t)
theorem lk_54 {L : Nat} {xs : Nat → Int32} {κ σ i : Nat} {h : gH} (hi : i + 6 ≤ L) (hL3 : L ≤ 3072) (hκ : κ + 2 ≤ 601024) (hσ : σ + 20 ≤ 7293034) (hI : LI2 h) (K : ∀ h', LI2 h' → gK L xs (κ + 2) (σ + 20) 1882 [some (.ref 2000), some (.ref 0), some (.ref 142), some (.ref 156), some (.int (zI (i : Int))), none, none] [] h') : gK L xs κ σ 1844 [some (.ref 2000), some (.ref 0), some (.ref 142), some (.ref 156), some (.int (zI (i : Int))), none, none] [] h := by
  obtain ⟨t, n, T, B, s, q, hI⟩ := hI
  refine gk_aload_n (pc' := 1845) dL_law_1844 rfl rfl ?_
  refine gk_aload_n (pc' := 1846) dL_law_1845 rfl rfl ?_
  refine gk_iload (pc' := 1848) dL_law_1846 rfl rfl ?_
  refine gk_iconst (pc' := 1849) dL_law_1848 rfl ?_
  refine gk_iadd (pc' := 1850) dL_law_1849 rfl ?_
  refine gk_sld (pc' := 1851) (j := i + 1) (by omega) (by omega) hL3 dL_law_1850 rfl ?_
  refine gk_callV (C := RX10) (ci := 9) (rest := []) (x_size (tp := n) (a := xZ xs (i + 1)) hI.1 hI.2.2.2.1 hI.2.2.2.2.1.2.1 (xZ_in _ _)) lo_X10_size (gtb_at 1187 (by decide +kernel) rfl) (gtb_at 1188 (by decide +kernel) rfl) (gtb_at 1189 (by decide +kernel) rfl) (gtb_at 1 (by decide +kernel) rfl) lc_X10_size (by decide) rfl rfl (by decide) (by omega) (by omega) rfl (Nat.le_of_ble_eq_true rfl) dL_law_1851 rfl (fun v9 h1 q1 => ?_)
  obtain ⟨rfl, e1⟩ := q1
  rw [e1]
  clear e1
  show gK _ _ _ _ _ _ [.int (zI _)] _
  refine gk_aload_n (pc' := 1855) dL_law_1854 rfl rfl ?_
  refine gk_aload_n (pc' := 1856) dL_law_1855 rfl rfl ?_
  refine gk_iload (pc' := 1858) dL_law_1856 rfl rfl ?_
  refine gk_iconst (pc' := 1859) dL_law_1858 rfl ?_
  refine gk_iadd (pc' := 1860) dL_law_1859 rfl ?_
  refine gk_sld (pc' := 1861) (j := i + 1) (by omega) (by omega) hL3 dL_law_1860 rfl ?_
  refine gk_callV (C := RX11) (ci := 10) (rest := [.int (zI _)]) (m_size (tp := n) (a := xZ xs (i + 1)) hI.2.1 hI.2.2.2.1.2.2.2 hI.2.2.2.2.2.1.2.1 (xZ_in _ _)) lo_X11_size (gtb_at 1911 (by decide +kernel) rfl) (gtb_at 1912 (by decide +kernel) rfl) (gtb_at 1913 (by decide +kernel) rfl) (gtb_at 11 (by decide +kernel) rfl) lc_X11_size (by decide) rfl rfl (by decide) (by omega) (by omega) rfl (Nat.le_of_ble_eq_true rfl) dL_law_1861 rfl (fun v9 h2 q2 => ?_)
  obtain ⟨rfl, e2⟩ := q2
  rw [e2]
  clear e2
  show gK _ _ _ _ _ _ [.int (zI _), .int (zI _)] _
  refine gk_same (tgt := 1882) dL_law_1864 (by decide) rfl ?_
  exact gk_widen (by omega) (by omega) (K _ hI.t)
theorem lk_55 {L : Nat} {xs : Nat → Int32} {κ σ i : Nat} {h : gH} (hi : i + 6 ≤ L) (hL3 : L ≤ 3072) (hκ : κ + 2 ≤ 601024) (hσ : σ + 20 ≤ 7293034) (hI : LI2 h) (K : ∀ h', LI2 h' → gK L xs (κ + 2) (σ + 20) 1882 [some (.ref 2000), some (.ref 0), some (.ref 142), some (.ref 156), some (.int (zI (i : Int))), none, none] [] h') : gK L xs κ σ 1869 [some (.ref 2000), some (.ref 0), some (.ref 142), some (.ref 156), some (.int (zI (i : Int))), none, none] [] h := by
  obtain ⟨t, n, T, B, s, q, hI⟩ := hI
  refine gk_aload_n (pc' := 1870) dL_law_1869 rfl rfl ?_
  refine gk_callV (C := RX10) (ci := 9) (rest := []) (x_trouble) lo_X10_trouble (gtb_at 1191 (by decide +kernel) rfl) (gtb_at 1192 (by decide +kernel) rfl) (gtb_at 1193 (by decide +kernel) rfl) (gtb_at 1 (by decide +kernel) rfl) lc_X10_trouble (by decide) rfl rfl (by decide) (by omega) (by omega) rfl (Nat.le_of_ble_eq_true rfl) dL_law_1870 rfl (fun v9 h1 q1 => ?_)
  obtain ⟨rfl, e1⟩ := q1
  rw [e1]
  clear e1
  show gK _ _ _ _ _ _ [.int (zI _)] _
  refine gk_aload_n (pc' := 1874) dL_law_1873 rfl rfl ?_
  refine gk_callV (C := RX11) (ci := 10) (rest := [.int (zI _)]) (m_trouble) lo_X11_trouble (gtb_at 1915 (by decide +kernel) rfl) (gtb_at 1916 (by decide +kernel) rfl) (gtb_at 1917 (by decide +kernel) rfl) (gtb_at 11 (by decide +kernel) rfl) lc_X11_trouble (by decide) rfl rfl (by decide) (by omega) (by omega) rfl (Nat.le_of_ble_eq_true rfl) dL_law_1874 rfl (fun v9 h2 q2 => ?_)
  obtain ⟨rfl, e2⟩ := q2
  rw [e2]
  clear e2
  show gK _ _ _ _ _ _ [.int (zI _), .int (zI _)] _
  refine gk_same (tgt := 1882) dL_law_1877 (by decide) (hI.2.2.2.2.2.2.2.1.1.trans hI.2.2.2.2.2.2.2.1.2.1.symm) ?_
  exact gk_widen (by omega) (by omega) (K _ hI.t)
theorem lk_0 {L : Nat} {xs : Nat → Int32} {κ σ i : Nat} {h : gH} (hi : i + 6 ≤ L) (hL3 : L ≤ 3072) (hκ : κ + 2 ≤ 601024) (hσ : σ + 20 ≤ 7293034) (hI : LI2 h) (K : ∀ h', LI2 h' → gK L xs (κ + 2) (σ + 20) 1882 [some (.ref 2000), some (.ref 0), some (.ref 142), some (.ref 156), some (.int (zI (i : Int))), none, none] [] h') : gK L xs κ σ 280 [some (.ref 2000), some (.ref 0), some (.ref 142), some (.ref 156), some (.int (zI (i : Int))), none, none] [] h := by
  obtain ⟨t, n, T, B, s, q, hI⟩ := hI
  refine gk_aload_n (pc' := 281) dL_law_280 rfl rfl ?_
  refine gk_aload_n (pc' := 282) dL_law_281 rfl rfl ?_
  refine gk_iload (pc' := 284) dL_law_282 rfl rfl ?_
  refine gk_iconst (pc' := 285) dL_law_284 rfl ?_
  refine gk_iadd (pc' := 286) dL_law_285 rfl ?_
  refine gk_sld (pc' := 287) (j := i + 1) (by omega) (by omega) hL3 dL_law_286 rfl ?_
  refine gk_aload_n (pc' := 288) dL_law_287 rfl rfl ?_
  refine gk_iload (pc' := 290) dL_law_288 rfl rfl ?_
  refine gk_iconst (pc' := 291) dL_law_290 rfl ?_
  refine gk_iadd (pc' := 292) dL_law_291 rfl ?_
  refine gk_sld (pc' := 293) (j := i + 2) (by omega) (by omega) hL3 dL_law_292 rfl ?_
  refine gk_aload_n (pc' := 294) dL_law_293 rfl rfl ?_
  refine gk_iload (pc' := 296) dL_law_294 rfl rfl ?_
  refine gk_iconst (pc' := 297) dL_law_296 rfl ?_
  refine gk_iadd (pc' := 298) dL_law_297 rfl ?_
  refine gk_sld (pc' := 299) (j := i + 3) (by omega) (by omega) hL3 dL_law_298 rfl ?_
  refine gk_aload_n (pc' := 300) dL_law_299 rfl rfl ?_
  refine gk_iload (pc' := 302) dL_law_300 rfl rfl ?_
  refine gk_iconst (pc' := 303) dL_law_302 rfl ?_
  refine gk_iadd (pc' := 304) dL_law_303 rfl ?_
  refine gk_sld (pc' := 305) (j := i + 4) (by omega) (by omega) hL3 dL_law_304 rfl ?_
  refine gk_aload_n (pc' := 306) dL_law_305 rfl rfl ?_
  refine gk_iload (pc' := 308) dL_law_306 rfl rfl ?_
  refine gk_iconst (pc' := 309) dL_law_308 rfl ?_
  refine gk_iadd (pc' := 310) dL_law_309 rfl ?_
  refine gk_sld (pc' := 311) (j := i + 5) (by omega) (by omega) hL3 dL_law_310 rfl ?_
  refine gk_callV (C := RX10) (ci := 9) (rest := []) (x_feed (ar := fun k => xZ xs (i + 1 + k)) hI.2.2.2.2.1) lo_X10_feed (gtb_at 386 (by decide +kernel) rfl) (gtb_at 387 (by decide +kernel) rfl) (gtb_at 388 (by decide +kernel) rfl) (gtb_at 1 (by decide +kernel) rfl) lc_X10_feed (by decide) rfl rfl (by decide) (by omega) (by omega) rfl (Nat.le_of_ble_eq_true rfl) dL_law_311 rfl (fun v9 h1 q1 => ?_)
  obtain ⟨rfl, e2, eo, r1, r2⟩ := q1
  have hRM : RM h1 n B := hI.2.2.2.2.2.1.to (by rw [eo 142 (by decide) (by decide)]) (eo 143 (by decide) (by decide))
  show gK _ _ _ _ _ _ [.int (zI _)] _
  refine gk_aload_n (pc' := 315) dL_law_314 rfl rfl ?_
  refine gk_aload_n (pc' := 316) dL_law_315 rfl rfl ?_
  refine gk_iload (pc' := 318) dL_law_316 rfl rfl ?_
  refine gk_iconst (pc' := 319) dL_law_318 rfl ?_
  refine gk_iadd (pc' := 320) dL_law_319 rfl ?_
  refine gk_sld (pc' := 321) (j := i + 1) (by omega) (by omega) hL3 dL_law_320 rfl ?_
  refine gk_aload_n (pc' := 322) dL_law_321 rfl rfl ?_
  refine gk_iload (pc' := 324) dL_law_322 rfl rfl ?_
  refine gk_iconst (pc' := 325) dL_law_324 rfl ?_
  refine gk_iadd (pc' := 326) dL_law_325 rfl ?_
  refine gk_sld (pc' := 327) (j := i + 2) (by omega) (by omega) hL3 dL_law_326 rfl ?_
  refine gk_aload_n (pc' := 328) dL_law_327 rfl rfl ?_
  refine gk_iload (pc' := 330) dL_law_328 rfl rfl ?_
  refine gk_iconst (pc' := 331) dL_law_330 rfl ?_
  refine gk_iadd (pc' := 332) dL_law_331 rfl ?_
  refine gk_sld (pc' := 333) (j := i + 3) (by omega) (by omega) hL3 dL_law_332 rfl ?_
  refine gk_aload_n (pc' := 334) dL_law_333 rfl rfl ?_
  refine gk_iload (pc' := 336) dL_law_334 rfl rfl ?_
  refine gk_iconst (pc' := 337) dL_law_336 rfl ?_
  refine gk_iadd (pc' := 338) dL_law_337 rfl ?_
  refine gk_sld (pc' := 339) (j := i + 4) (by omega) (by omega) hL3 dL_law_338 rfl ?_
  refine gk_aload_n (pc' := 340) dL_law_339 rfl rfl ?_
  refine gk_iload (pc' := 342) dL_law_340 rfl rfl ?_
  refine gk_iconst (pc' := 343) dL_law_342 rfl ?_
  refine gk_iadd (pc' := 344) dL_law_343 rfl ?_
  refine gk_sld (pc' := 345) (j := i + 5) (by omega) (by omega) hL3 dL_law_344 rfl ?_
  refine gk_callV (C := RX11) (ci := 10) (rest := [.int (zI _)]) (m_feed (ar := fun k => xZ xs (i + 1 + k)) hRM) lo_X11_feed (gtb_at 1385 (by decide +kernel) rfl) (gtb_at 1386 (by decide +kernel) rfl) (gtb_at 1387 (by decide +kernel) rfl) (gtb_at 11 (by decide +kernel) rfl) lc_X11_feed (by decide) rfl rfl (by decide) (by omega) (by omega) rfl (Nat.le_of_ble_eq_true rfl) dL_law_345 rfl (fun v9 h2 q2 => ?_)
  obtain ⟨rfl, f2, fo, fk, s1, s2⟩ := q2
  show gK _ _ _ _ _ _ [.int (zI _), .int (zI _)] _
  refine gk_same (tgt := 1882) dL_law_348 (by decide) rfl ?_
  refine gk_widen (by omega) (by omega) (K h2 ?_)
  by_cases z : 900 < n + 20
  · exact hI.f e2 eo (r1 z) f2 fo fk (s1 z)
  · exact hI.f e2 eo (r2 z) f2 fo fk (s2 z)
theorem lk_1 {L : Nat} {xs : Nat → Int32} {κ σ i : Nat} {h : gH} (hi : i + 6 ≤ L) (hL3 : L ≤ 3072) (hκ : κ + 2 ≤ 601024) (hσ : σ + 20 ≤ 7293034) (hI : LI2 h) (K : ∀ h', LI2 h' → gK L xs (κ + 2) (σ + 20) 1882 [some (.ref 2000), some (.ref 0), some (.ref 142), some (.ref 156), some (.int (zI (i : Int))), none, none] [] h') : gK L xs κ σ 353 [some (.ref 2000), some (.ref 0), some (.ref 142), some (.ref 156), some (.int (zI (i : Int))), none, none] [] h := by
  obtain ⟨t, n, T, B, s, q, hI⟩ := hI
  have ht : t = 6 ∨ t = 29 := hI.1.1.1
  by_cases hr : 0 ≤ xZ xs (i + 1) ∧ xZ xs (i + 1) ≤ (n : Int)
  · obtain ⟨m, hm⟩ : ∃ m : Nat, xZ xs (i + 1) = (m : Int) := ⟨(xZ xs (i + 1)).toNat, by omega⟩
    by_cases hg : (rdR B m).1 = 0
    · refine gk_aload_n (pc' := 354) dL_law_353 rfl rfl ?_
      refine gk_aload_n (pc' := 355) dL_law_354 rfl rfl ?_
      refine gk_iload (pc' := 357) dL_law_355 rfl rfl ?_
      refine gk_iconst (pc' := 358) dL_law_357 rfl ?_
      refine gk_iadd (pc' := 359) dL_law_358 rfl ?_
      refine gk_sld (pc' := 360) (j := i + 1) (by omega) (by omega) hL3 dL_law_359 rfl ?_
      refine gk_callV (C := RX10) (ci := 9) (rest := []) (x_loft (a := xZ xs (i + 1)) hI.2.2.2.2.2.2.1 hI.1 hI.2.2.2.2.1 (xZ_in _ _)) lo_X10_loft (gtb_at 394 (by decide +kernel) rfl) (gtb_at 395 (by decide +kernel) rfl) (gtb_at 396 (by decide +kernel) rfl) (gtb_at 1 (by decide +kernel) rfl) lc_X10_loft (by decide) rfl rfl (by decide) (by omega) (by omega) rfl (Nat.le_of_ble_eq_true rfl) dL_law_360 rfl (fun v9 h1 q1 => ?_)
      obtain ⟨x1, x2, x3, x4⟩ := q1
      obtain ⟨rfl, y0, y1, y21, y7, y9, yX, yS, yZ, ym⟩ := x4 m hm (by omega) hg
      have hRM : RM h1 n B := hI.2.2.2.2.2.1.to (by rw [ym 142 (by decide)]) (ym 143 (by decide))
      show gK _ _ _ _ _ _ [.int (zI _)] _
      refine gk_aload_n (pc' := 364) dL_law_363 rfl rfl ?_
      refine gk_aload_n (pc' := 365) dL_law_364 rfl rfl ?_
      refine gk_iload (pc' := 367) dL_law_365 rfl rfl ?_
      refine gk_iconst (pc' := 368) dL_law_367 rfl ?_
      refine gk_iadd (pc' := 369) dL_law_368 rfl ?_
      refine gk_sld (pc' := 370) (j := i + 1) (by omega) (by omega) hL3 dL_law_369 rfl ?_
      refine gk_callV (C := RX11) (ci := 10) (rest := [.int (zI _)]) (m_loft (a := xZ xs (i + 1)) (s := s) hRM (xZ_in _ _) x2) lo_X11_loft (gtb_at 1389 (by decide +kernel) rfl) (gtb_at 1390 (by decide +kernel) rfl) (gtb_at 1391 (by decide +kernel) rfl) (gtb_at 11 (by decide +kernel) rfl) lc_X11_loft (by decide) rfl rfl (by decide) (by omega) (by omega) rfl (Nat.le_of_ble_eq_true rfl) dL_law_370 rfl (fun v9 h2 q2 => ?_)
      obtain ⟨w1, w3, w4⟩ := q2
      obtain ⟨rfl, m2, mo, m0, mz2, m9, m11, mM⟩ := w4 m hm (by omega) hg
      show gK _ _ _ _ _ _ [.int (zI _), .int (zI _)] _
      refine gk_same (tgt := 1882) dL_law_373 (by decide) rfl ?_
      exact gk_widen (by omega) (by omega) (K h2 (LInv.l2 (B := B) yX.1.1 (by rw [y1]; omega) y21 y7 y9 yX yS yZ m2 mo mz2 m9 m11 mM))
    · refine gk_aload_n (pc' := 354) dL_law_353 rfl rfl ?_
      refine gk_aload_n (pc' := 355) dL_law_354 rfl rfl ?_
      refine gk_iload (pc' := 357) dL_law_355 rfl rfl ?_
      refine gk_iconst (pc' := 358) dL_law_357 rfl ?_
      refine gk_iadd (pc' := 359) dL_law_358 rfl ?_
      refine gk_sld (pc' := 360) (j := i + 1) (by omega) (by omega) hL3 dL_law_359 rfl ?_
      refine gk_callV (C := RX10) (ci := 9) (rest := []) (x_loft (a := xZ xs (i + 1)) hI.2.2.2.2.2.2.1 hI.1 hI.2.2.2.2.1 (xZ_in _ _)) lo_X10_loft (gtb_at 394 (by decide +kernel) rfl) (gtb_at 395 (by decide +kernel) rfl) (gtb_at 396 (by decide +kernel) rfl) (gtb_at 1 (by decide +kernel) rfl) lc_X10_loft (by decide) rfl rfl (by decide) (by omega) (by omega) rfl (Nat.le_of_ble_eq_true rfl) dL_law_360 rfl (fun v9 h1 q1 => ?_)
      obtain ⟨x1, x2, x3, x4⟩ := q1
      obtain ⟨rfl, y2, yo, y21, y7, y8, y9⟩ := x3 m hm (by omega) hg
      have hRM : RM h1 n B := hI.2.2.2.2.2.1.to (by rw [yo 142 (by decide) (by decide) (by decide) (by decide) (by omega) (by decide) (by decide) (by decide)]) (yo 143 (by decide) (by decide) (by decide) (by decide) (by omega) (by decide) (by decide) (by decide))
      show gK _ _ _ _ _ _ [.int (zI _)] _
      refine gk_aload_n (pc' := 364) dL_law_363 rfl rfl ?_
      refine gk_aload_n (pc' := 365) dL_law_364 rfl rfl ?_
      refine gk_iload (pc' := 367) dL_law_365 rfl rfl ?_
      refine gk_iconst (pc' := 368) dL_law_367 rfl ?_
      refine gk_iadd (pc' := 369) dL_law_368 rfl ?_
      refine gk_sld (pc' := 370) (j := i + 1) (by omega) (by omega) hL3 dL_law_369 rfl ?_
      refine gk_callV (C := RX11) (ci := 10) (rest := [.int (zI _)]) (m_loft (a := xZ xs (i + 1)) (s := s) hRM (xZ_in _ _) x2) lo_X11_loft (gtb_at 1389 (by decide +kernel) rfl) (gtb_at 1390 (by decide +kernel) rfl) (gtb_at 1391 (by decide +kernel) rfl) (gtb_at 11 (by decide +kernel) rfl) lc_X11_loft (by decide) rfl rfl (by decide) (by omega) (by omega) rfl (Nat.le_of_ble_eq_true rfl) dL_law_370 rfl (fun v9 h2 q2 => ?_)
      obtain ⟨w1, w3, w4⟩ := q2
      obtain ⟨rfl, m2, mo, mk, m0, mz2, m9, m10, m11⟩ := w3 m hm (by omega) hg
      show gK _ _ _ _ _ _ [.int (zI _), .int (zI _)] _
      refine gk_same (tgt := 1882) dL_law_373 (by decide) rfl ?_
      exact gk_widen (by omega) (by omega) (K h2 (hI.l1 y2 yo y21 y7 y8 y9 m2 mo mk mz2 m9 m10 m11))
  · refine gk_aload_n (pc' := 354) dL_law_353 rfl rfl ?_
    refine gk_aload_n (pc' := 355) dL_law_354 rfl rfl ?_
    refine gk_iload (pc' := 357) dL_law_355 rfl rfl ?_
    refine gk_iconst (pc' := 358) dL_law_357 rfl ?_
    refine gk_iadd (pc' := 359) dL_law_358 rfl ?_
    refine gk_sld (pc' := 360) (j := i + 1) (by omega) (by omega) hL3 dL_law_359 rfl ?_
    refine gk_callV (C := RX10) (ci := 9) (rest := []) (x_loft (a := xZ xs (i + 1)) hI.2.2.2.2.2.2.1 hI.1 hI.2.2.2.2.1 (xZ_in _ _)) lo_X10_loft (gtb_at 394 (by decide +kernel) rfl) (gtb_at 395 (by decide +kernel) rfl) (gtb_at 396 (by decide +kernel) rfl) (gtb_at 1 (by decide +kernel) rfl) lc_X10_loft (by decide) rfl rfl (by decide) (by omega) (by omega) rfl (Nat.le_of_ble_eq_true rfl) dL_law_360 rfl (fun v9 h1 q1 => ?_)
    obtain ⟨x1, x2, x3, x4⟩ := q1
    obtain ⟨rfl, b, b9⟩ := x1 hr
    have hRM : RM h1 n B := hI.2.2.2.2.2.1.to (by rw [b.m 142 (by decide)]) (b.m 143 (by decide))
    show gK _ _ _ _ _ _ [.int (zI _)] _
    refine gk_aload_n (pc' := 364) dL_law_363 rfl rfl ?_
    refine gk_aload_n (pc' := 365) dL_law_364 rfl rfl ?_
    refine gk_iload (pc' := 367) dL_law_365 rfl rfl ?_
    refine gk_iconst (pc' := 368) dL_law_367 rfl ?_
    refine gk_iadd (pc' := 369) dL_law_368 rfl ?_
    refine gk_sld (pc' := 370) (j := i + 1) (by omega) (by omega) hL3 dL_law_369 rfl ?_
    refine gk_callV (C := RX11) (ci := 10) (rest := [.int (zI _)]) (m_loft (a := xZ xs (i + 1)) (s := s) hRM (xZ_in _ _) x2) lo_X11_loft (gtb_at 1389 (by decide +kernel) rfl) (gtb_at 1390 (by decide +kernel) rfl) (gtb_at 1391 (by decide +kernel) rfl) (gtb_at 11 (by decide +kernel) rfl) lc_X11_loft (by decide) rfl rfl (by decide) (by omega) (by omega) rfl (Nat.le_of_ble_eq_true rfl) dL_law_370 rfl (fun v9 h2 q2 => ?_)
    obtain ⟨w1, w3, w4⟩ := q2
    obtain ⟨rfl, c, c11⟩ := w1 hr
    show gK _ _ _ _ _ _ [.int (zI _), .int (zI _)] _
    refine gk_same (tgt := 1882) dL_law_373 (by decide) rfl ?_
    exact gk_widen (by omega) (by omega) (K h2 (hI.q b b9 c c11 (Or.inr (Or.inr (Or.inl rfl)))))
