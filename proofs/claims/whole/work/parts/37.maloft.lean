/-! the model: aloft -/
theorem m_aloft {h : gH} {T S : Nat → Nat} {a b : Int} (hQ : mQ h T S) (ha : inB a) (hb : inB b) : gSp 12 yX11_aloft cX11_aloft 4 (some .int) [.ref 142, .int (zI a), .int (zI b)] h (qM (aBiN T a b (fun n m => alF (tFl T n) (T 2) m) 65536).1 (aBiN T a b (fun n m => alF (tFl T n) (T 2) m) 65536).2 h) := by
  obtain ⟨hA, hH, hZ, -⟩ := id hQ
  have hH2 : (mG h).1 142 14 = bI (decide (T 3 ≠ 0)) := hH
  have ha2 := ha
  unfold inB at ha2
  have hb2 := hb
  unfold inB at hb2
  refine gSp_of (by decide +kernel) (Nat.le_of_ble_eq_true rfl) ?_
  show gJ RX11 cX11_aloft 4 (some .int) _ 0 [some (.ref 142), some (.int (zI a)), some (.int (zI b)), none] [] _ _
  refine gj_aload_n (pc' := 1) dX11_aloft_0 rfl rfl ?_
  refine gc_X11_153 (pc' := 4) dX11_aloft_1 rfl (m_good) rfl (by first | rfl | assumption) (by decide) rfl (Nat.le_of_ble_eq_true rfl) (fun v9 h9 q9 => ?_)
  obtain ⟨rfl, rfl⟩ := q9
  show gJ _ _ _ _ _ _ _ [] _ _
  refine gj_aload_n (pc' := 5) dX11_aloft_4 rfl rfl ?_
  refine gj_aload_n (pc' := 6) dX11_aloft_5 rfl rfl ?_
  refine gj_iload_n (pc' := 7) dX11_aloft_6 rfl rfl ?_
  refine gr_X11_286 (pc' := 10) dX11_aloft_7 rfl (m_isBirdQ hQ.g ha) rfl (by first | rfl | assumption) (by decide) rfl (Nat.le_of_ble_eq_true rfl) ?_
  refine gj_iload_n (pc' := 11) dX11_aloft_10 rfl rfl ?_
  refine gj_ldcw (z := 65536) (pc' := 14) dX11_aloft_11 rfl (gtb_at 1865 (by decide +kernel) rfl) ?_
  refine gr_X11_298 (pc' := 17) dX11_aloft_14 rfl (m_why hb2 (by omega)) rfl (by first | rfl | assumption) (by decide) rfl (Nat.le_of_ble_eq_true rfl) ?_
  obtain ⟨w, hw, hw2⟩ := why_cs (C := 0 ≤ a ∧ a < (T 4 : Int)) (b := b) (m := 65536)
  rw [hw]
  refine gj_istore_n (pc' := 18) dX11_aloft_17 rfl (by decide) ?_
  refine gj_iload_n (pc' := 19) dX11_aloft_18 rfl rfl ?_
  refine gj_if_eq (pc' := 22) (tgt := 28) dX11_aloft_19 (by decide) rfl (by omega) (fun c19 => ?_) (fun c19 => ?_)
  · first | have g19 := of_decide_eq_true c19 | have g19 := of_decide_eq_false c19 | skip
    obtain ⟨n, rfl⟩ : ∃ n : Nat, a = (n : Int) := ⟨a.toNat, by omega⟩
    obtain ⟨m, rfl⟩ : ∃ m : Nat, b = (m : Int) := ⟨b.toNat, by omega⟩
    have hM : MI (mG h) T S := hQ.mi (by omega)
    obtain ⟨hA2, hT, hS⟩ := id hM
    have h3 := hT.2.2.2.1
    have h4 : T 4 ≤ 7 := hT.2.2.2.2.1
    have hd := hS.2.2.1
    have g19 := sv19 hT hS
    refine gj_aload_n (pc' := 29) dX11_aloft_28 rfl rfl ?_
    refine gj_iload_n (pc' := 30) dX11_aloft_29 rfl rfl ?_
    refine gp_X11_394 (pc' := 33) dX11_aloft_30 rfl (by first | rfl | assumption) rfl ?_
    refine gj_aload_n (pc' := 34) dX11_aloft_33 rfl rfl ?_
    refine gj_iload_n (pc' := 35) dX11_aloft_34 rfl rfl ?_
    refine gc_X11_399 (pc' := 38) dX11_aloft_35 rfl (m_aloftOf (S := S) (b := n) (x := m) (hM.nt (gui_n (by decide)) (gui_n (by decide))) (by omega) (by rw [gui_s, up1_s]) (by omega)) rfl (by first | rfl | assumption) (by decide) rfl (Nat.le_of_ble_eq_true rfl) (fun v9 h9 q9 => ?_)
    obtain ⟨rfl, d0, d1, d2, d3⟩ := q9
    show gJ _ _ _ _ _ _ _ [.int (zI _)] _ _
    refine gj_iret rfl dX11_aloft_38 ?_
    obtain ⟨g1, g2, g3, g4⟩ := MS.good h
    exact qM_i (tr := 0) (by unfold aBiN; rw [if_pos (by omega), if_pos (by omega)]; simp only [Int.toNat_natCast]) ⟨d0, fun o a a1 a2 a3 a4 a5 a6 => (d1 o a).trans ((gui_n a).trans (g2 o a a1 a2 a3 a4 a5 a6)), fun k b0 b11 b24 => by rw [d2 k (by omega), gui_s, up1_n (by omega)]; exact g3 k b0 b11 b24, by rw [d2 0 (by decide), gui_s, up1_n (by decide)]; exact g4⟩ (by rw [d2 11 (by decide), gui_s, up1_n (by decide)]; rfl)
  · first | have g19 := of_decide_eq_true c19 | have g19 := of_decide_eq_false c19 | skip
    refine gj_aload_n (pc' := 23) dX11_aloft_22 rfl rfl ?_
    refine gj_iload_n (pc' := 24) dX11_aloft_23 rfl rfl ?_
    refine gc_X11_156 (pc' := 27) dX11_aloft_24 rfl (m_no) rfl (by first | rfl | assumption) (by decide) rfl (Nat.le_of_ble_eq_true rfl) (fun v9 h9 q9 => ?_)
    obtain ⟨rfl, rfl⟩ := q9
    show gJ _ _ _ _ _ _ _ (.int (zI (-1)) :: _) _ _
    refine gj_iret rfl dX11_aloft_27 ?_
    first | exact qM_g (by unfold aBiN; (try simp only [Int.toNat_natCast]); repeat' (first | (exfalso; omega) | split | rfl | (congr 1; omega) | simp_all)) | exact qM_n (by unfold aBiN; (try simp only [Int.toNat_natCast]); repeat' (first | (exfalso; omega) | split | rfl | (congr 1; omega) | simp_all))
