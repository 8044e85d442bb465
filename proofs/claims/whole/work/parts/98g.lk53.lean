/-! the law's case of led -/
theorem lC_led : Cond.codeWith yL_led cL_led 4 (some .int) hhL ∈ gtb := (gtb_at 1197 (by decide +kernel) rfl)
theorem lo_L_led : gOkM yL_led 3 := ⟨by decide +kernel, by decide +kernel, by decide +kernel⟩
theorem lo_X11_led : gOkM yX11_led 1 := ⟨by decide +kernel, by decide +kernel, by decide +kernel⟩
theorem lo_X11_thrown : gOkM yX11_thrown 0 := ⟨by decide +kernel, by decide +kernel, by decide +kernel⟩
theorem zq_of {s : State} {args : Array Value} {ad : Nat → Nat} (hlt : ∀ w ∈ lw_tbl, w.before args s = true) (hgv : (Jvm.Cond.and given_1 narrow_1).before args s = true) (ha : ∀ i, i < NN → s.heap.size ≤ ad i) : Zqs (gA ad s.heap.size) s s.heap := by
  have hs := flat_of_before _ hgv
  have hA : ∀ q : Nat, q < s.heap.size → ¬ gA ad s.heap.size q := fun q hq z => absurd (lA ha z) (by omega)
  exact ⟨vx_Zqof (hlt _ (tb_at 1231 (by decide +kernel))) (hlt _ (tb_at 20 (by decide +kernel))) (hs _ (by decide +kernel)) hA, vx_Zqof (hlt _ (tb_at 1233 (by decide +kernel))) (hlt _ (tb_at 20 (by decide +kernel))) (hs _ (by decide +kernel)) hA,
    va_Nw.of rfl (hlt _ (tb_at 1206 (by decide +kernel))), va_Nw.of rfl (hlt _ (tb_at 1208 (by decide +kernel))), va_Nw.of rfl (hlt _ (tb_at 1210 (by decide +kernel))), va_Nw.of rfl (hlt _ (tb_at 1212 (by decide +kernel)))⟩
theorem gk_led {L : Nat} {xs : Nat → Int32} {κ σ : Nat} {ls : List (Option Value)} {h : gH} {t : Nat} {T S : Nat → Nat} {a : Int} (hQ : XQ h t T S) (ha : inB a) (hκ : κ + 1 ≤ 601024) (hσ : σ + 6 ≤ 7293034) (kk : ∀ (v : Option Value) (h' : gH), ldQ T S a h v h' → gK L xs (κ + 1) (σ + 6) 1799 ls (v.toList ++ []) h') : gK L xs κ σ 1796 ls [.ref 156, .int (zI a), .ref 0] h := by
  intro p l e s m args below meth c D aC ad C0 H locs lsA hP hS hL
  obtain ⟨hx, hb, hml, hr, hown, hts, hlocks, hK, hinj, hX⟩ := id C0.1
  obtain ⟨a1, a2, a3, a4⟩ := id C0.2.1
  obtain ⟨-, -, hL3, hfl, hlt, hgv⟩ := id C0
  have hl9 : l.stackTraces = false := by unfold Launch.stackTraces; rw [hfl]; decide
  have hZ := zq_of hlt hgv a4
  have hA := gA_mono (ad := ad) hS.1
  have run := vx_runSX (p := p) (l := l) (e := e) (R := room_1) (below := below) (meth := meth) (As := [.ref (ad 0), .int (zI a), .ref (ad 156)]) (rest := []) (H := H) (locs := locs) (cells := κ) (slots := σ) (mc := 1) (ms := 6) (n := 3) (g := F0 m 1796 lsA [.ref (ad 156), .int (zI a), .ref (ad 0)]) ⟨hx, hb, hml, hown, hts⟩ (l_led hQ ha l D aC ad H.size hinj hl9)
    ⟨⟨rfl, rfl, by decide, by decide, fun w hw a' U hW => gtb_warm hts hW w ((List.mem_cons.mp hw).elim (fun z => by rw [z]; exact lC_led) id) a', List.mem_cons_self⟩, hts _ lC_led, hts _ (gtb_at 0 (by decide +kernel) rfl), ⟨lo_L_led.1, lo_L_led.2.1⟩, gOkM_len lo_L_led, hts _ (gtb_at 1195 (by decide +kernel) rfl), hts _ (gtb_at 1196 (by decide +kernel) rfl)⟩
    ⟨ePre_blind, fun U hU hW => ⟨rfl, gPre_of C0.1 hP hS U hU hW, by rw [hU]; exact ((hZ.moved hW.alike).kept hS.2.1).narrow hA⟩⟩ rfl rfl hL.size rfl (lv_room (by simp)) dL_law_1796 ⟨hκ, hσ⟩
  intro Tt hT X
  rcases run Tt hT X with ⟨v, st₀, t9, T', L9, h0, X', hL2, e1, e2, ⟨⟨v', h', hv, hq', hPw⟩, hz, hk⟩, st⟩ | ⟨q, st₀, t9, T', L9, E, ce, h0, X', hL2, e1, e2, hF, hce, hcv, hcl, st⟩
  · have hv' : v = v'.map (gv ad) := by cases hv; rfl
    subst hv'
    rw [h0] at hz hk
    have hS' : va_S (gA ad s.heap.size) s.heap T'.heap (locs ++ L9) := ⟨Nat.le_trans hS.1 (by rw [e1]; exact hz), fun q h1 h2 => by rw [e1, hk q (Nat.lt_of_lt_of_le h1 hS.1) (fun z => h2 (hA q z))]; exact hS.2.1 q h1 h2, fun q hq => by
      rcases List.mem_append.mp hq with g | g
      · exact hS.2.2 q g
      · exact hA _ (hL2 q g)⟩
    obtain ⟨tt, b1, b2⟩ := kk v' h' hq' p l e s m args below meth c D aC ad C0 T'.heap (locs ++ L9) lsA (by rw [e1]; exact hPw) hS' hL T' rfl X'
    rw [gv_maps] at b1
    exact ⟨tt, st tt b1, b2⟩
  · exact hF.elim
theorem lk_53 {L : Nat} {xs : Nat → Int32} {κ σ i : Nat} {h : gH} (hi : i + 6 ≤ L) (hL3 : L ≤ 3072) (hκ : κ + 2 ≤ 601024) (hσ : σ + 20 ≤ 7293034) (hI : LI2 h) (K : ∀ h', LI2 h' → gK L xs (κ + 2) (σ + 20) 1882 [some (.ref 2000), some (.ref 0), some (.ref 142), some (.ref 156), some (.int (zI (i : Int))), none, none] [] h') : gK L xs κ σ 1788 [some (.ref 2000), some (.ref 0), some (.ref 142), some (.ref 156), some (.int (zI (i : Int))), none, none] [] h := by
  obtain ⟨t, n, T, B, s, q, hI⟩ := hI
  refine gk_aload_n (pc' := 1789) dL_law_1788 rfl rfl ?_
  refine gk_aload_n (pc' := 1790) dL_law_1789 rfl rfl ?_
  refine gk_iload (pc' := 1792) dL_law_1790 rfl rfl ?_
  refine gk_iconst (pc' := 1793) dL_law_1792 rfl ?_
  refine gk_iadd (pc' := 1794) dL_law_1793 rfl ?_
  refine gk_sld (pc' := 1795) (j := i + 1) (by omega) (by omega) hL3 dL_law_1794 rfl ?_
  refine gk_aload_n (pc' := 1796) dL_law_1795 rfl rfl ?_
  refine gk_led hI.1.1 (xZ_in _ _) (by omega) (by omega) (fun v h1 q1 => ?_)
  rcases q1 with ⟨hne, rfl, rfl⟩ | ⟨hne, rfl, rfl⟩
  · have hI' : LInv (gul h 156 0 (ldF T s.1 (xZ xs (i + 1)))) t n T B s q := hI
    show gK _ _ _ _ _ _ [.int (zI 0)] _
    refine gk_istore (pc' := 1801) dL_law_1799 rfl (by decide) ?_
    refine gk_aload_n (pc' := 1802) dL_law_1801 rfl rfl ?_
    refine gk_aload_n (pc' := 1803) dL_law_1802 rfl rfl ?_
    refine gk_iload (pc' := 1805) dL_law_1803 rfl rfl ?_
    refine gk_iconst (pc' := 1806) dL_law_1805 rfl ?_
    refine gk_iadd (pc' := 1807) dL_law_1806 rfl ?_
    refine gk_sld (pc' := 1808) (j := i + 1) (by omega) (by omega) hL3 dL_law_1807 rfl ?_
    refine gk_callV (C := RX11) (ci := 10) (rest := []) (m_led (T := T) (S := s.1) (a := xZ xs (i + 1)) hI'.2.1.1 (xZ_in _ _)) lo_X11_led (gtb_at 1907 (by decide +kernel) rfl) (gtb_at 1908 (by decide +kernel) rfl) (gtb_at 1909 (by decide +kernel) rfl) (gtb_at 11 (by decide +kernel) rfl) (gtb_at 1910 (by decide +kernel) rfl) (by decide) rfl rfl (by decide) (by omega) (by omega) rfl (Nat.le_of_ble_eq_true rfl) dL_law_1808 rfl (fun v9 h2 q2 => ?_)
    obtain ⟨rfl, rfl⟩ := q2
    show gK _ _ _ _ _ _ [.int (zI _)] _
    refine gk_istore (pc' := 1813) dL_law_1811 rfl (by decide) ?_
    refine gk_aload_n (pc' := 1814) dL_law_1813 rfl rfl ?_
    refine gk_callV (C := RX11) (ci := 10) (rest := []) m_thrown lo_X11_thrown (gtb_at 1381 (by decide +kernel) rfl) (gtb_at 1382 (by decide +kernel) rfl) (gtb_at 1383 (by decide +kernel) rfl) (gtb_at 11 (by decide +kernel) rfl) (gtb_at 1384 (by decide +kernel) rfl) (by decide) rfl rfl (by decide) (by omega) (by omega) rfl (Nat.le_of_ble_eq_true rfl) dL_law_1814 rfl (fun v9 h2 q3 => ?_)
    obtain ⟨rfl, rfl⟩ := q3
    show gK _ _ _ _ _ _ [.int (zI _)] _
    refine gk_iload (pc' := 1819) (x := zI 0) dL_law_1817 rfl rfl ?_
    refine gk_same (tgt := 1824) dL_law_1819 (by decide) (by rw [gui_s, up1_s]; rw [if_neg hne]) ?_
    refine gk_iload (pc' := 1826) (x := zI 0) dL_law_1824 rfl rfl ?_
    refine gk_if_ne (a := 0) (pc' := 1829) (tgt := 1841) dL_law_1826 (by decide) rfl (by decide) (fun z => absurd rfl z) (fun _ => ?_)
    refine gk_aload_n (pc' := 1830) dL_law_1829 rfl rfl ?_
    refine gk_iconst (pc' := 1831) dL_law_1830 rfl ?_
    refine gk_lald (pc' := 1832) (j := 0) (by rfl) rfl (by decide) (by decide) dL_law_1831 rfl ?_
    refine gk_iload (pc' := 1834) (x := zI (if ldF T s.1 (xZ xs (i + 1)) = -2 then 0 else ldF T s.1 (xZ xs (i + 1)))) dL_law_1832 rfl rfl ?_
    have hbd := fstN_bd (ldP s.1 (xZ xs (i + 1))) (T 4)
    have h4 := hI'.1.1.2.2.2.1.2.1
    have hbd2 : -2 ≤ ldF T s.1 (xZ xs (i + 1)) ∧ ldF T s.1 (xZ xs (i + 1)) < 7 := by unfold ldF; omega
    rw [if_neg hne]
    refine gk_i2l (pc' := 1835) dL_law_1834 rfl (by omega) ?_
    refine gk_lsame (tgt := 1841) dL_law_1835 dL_law_1836 (by decide) (by show u2 h.2.1 156 0 (ldF T s.1 (xZ xs (i + 1))) 156 0 = _; rw [u2_s, up1_s]) ?_
    refine gk_goto (pc' := 1882) dL_law_1841 (by decide) ?_
    exact gk_wk (gk_widen (by omega) (by omega) (K _ hI'.t)) (by exact ⟨rfl, rfl, rfl, rfl, rfl, True.intro⟩)
  · have hI' := hI
    show gK _ _ _ _ _ _ [.int (zI 1)] _
    refine gk_istore (pc' := 1801) dL_law_1799 rfl (by decide) ?_
    refine gk_aload_n (pc' := 1802) dL_law_1801 rfl rfl ?_
    refine gk_aload_n (pc' := 1803) dL_law_1802 rfl rfl ?_
    refine gk_iload (pc' := 1805) dL_law_1803 rfl rfl ?_
    refine gk_iconst (pc' := 1806) dL_law_1805 rfl ?_
    refine gk_iadd (pc' := 1807) dL_law_1806 rfl ?_
    refine gk_sld (pc' := 1808) (j := i + 1) (by omega) (by omega) hL3 dL_law_1807 rfl ?_
    refine gk_callV (C := RX11) (ci := 10) (rest := []) (m_led (T := T) (S := s.1) (a := xZ xs (i + 1)) hI'.2.1.1 (xZ_in _ _)) lo_X11_led (gtb_at 1907 (by decide +kernel) rfl) (gtb_at 1908 (by decide +kernel) rfl) (gtb_at 1909 (by decide +kernel) rfl) (gtb_at 11 (by decide +kernel) rfl) (gtb_at 1910 (by decide +kernel) rfl) (by decide) rfl rfl (by decide) (by omega) (by omega) rfl (Nat.le_of_ble_eq_true rfl) dL_law_1808 rfl (fun v9 h2 q2 => ?_)
    obtain ⟨rfl, rfl⟩ := q2
    show gK _ _ _ _ _ _ [.int (zI _)] _
    refine gk_istore (pc' := 1813) dL_law_1811 rfl (by decide) ?_
    refine gk_aload_n (pc' := 1814) dL_law_1813 rfl rfl ?_
    refine gk_callV (C := RX11) (ci := 10) (rest := []) m_thrown lo_X11_thrown (gtb_at 1381 (by decide +kernel) rfl) (gtb_at 1382 (by decide +kernel) rfl) (gtb_at 1383 (by decide +kernel) rfl) (gtb_at 11 (by decide +kernel) rfl) (gtb_at 1384 (by decide +kernel) rfl) (by decide) rfl rfl (by decide) (by omega) (by omega) rfl (Nat.le_of_ble_eq_true rfl) dL_law_1814 rfl (fun v9 h2 q3 => ?_)
    obtain ⟨rfl, rfl⟩ := q3
    show gK _ _ _ _ _ _ [.int (zI _)] _
    refine gk_iload (pc' := 1819) (x := zI 1) dL_law_1817 rfl rfl ?_
    refine gk_same (tgt := 1824) dL_law_1819 (by decide) (by rw [gui_s, up1_s]; rw [if_pos hne]) ?_
    refine gk_iload (pc' := 1826) (x := zI 1) dL_law_1824 rfl rfl ?_
    refine gk_if_ne (a := 1) (pc' := 1829) (tgt := 1841) dL_law_1826 (by decide) rfl (by decide) (fun _ => ?_) (fun z => absurd z (by decide))
    refine gk_goto (pc' := 1882) dL_law_1841 (by decide) ?_
    exact gk_wk (gk_widen (by omega) (by omega) (K _ hI'.t)) (by exact ⟨rfl, rfl, rfl, rfl, rfl, True.intro⟩)
