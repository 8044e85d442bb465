/-! the acts: the model's face -/
def YM (h h' : gH) : Prop := h'.2 = h.2 ∧ (∀ o, o ≠ 142 → o ≠ 147 → o ≠ 148 → o ≠ 149 → o ≠ 150 → o ≠ 151 → o ≠ 152 → o ≠ 153 → o ≠ 154 → o ≠ 155 → h'.1 o = h.1 o) ∧ (∀ k, k ≠ 0 → k ≠ 11 → k ≠ 20 → k ≠ 21 → k < 24 → h'.1 142 k = h.1 142 k) ∧ h'.1 142 0 = 0
def MST (h : gH) (T : Nat → Nat) (s : gSt) : Prop := mQ h T s.1 ∧ MH h s.2.1.1 s.2.1.2 s.2.2.1 s.2.2.2 ∧ stV T s
theorem MS.ym {h h' : gH} (a : MS h h') : YM h h' := ⟨a.1, fun o o1 _ _ _ o2 o3 o4 o5 o6 o7 => a.2.1 o o1 o2 o3 o4 o5 o6 o7, fun k k0 k1 _ _ k2 => a.2.2.1 k k0 k1 k2, a.2.2.2⟩
theorem mQ.to {h h' : gH} {T S S' : Nat → Nat} (hQ : mQ h T S) (e : h'.1 145 = h.1 145) (e14 : h'.1 142 14 = h.1 142 14) (hS' : ∀ j, j < 22 → h'.1 147 j = (S' j : Int)) (hV : TV T ∧ SV T S') : mQ h' T S' := by
  obtain ⟨hA, h14, hZ, -⟩ := hQ
  exact ⟨⟨fun k hk => by rw [e]; exact hA.1 k hk, hS'⟩, e14.trans h14, hZ, Or.inr hV⟩
theorem mQ.ms {h h' : gH} {T S : Nat → Nat} (hQ : mQ h T S) (hs : MS h h') : mQ h' T S := by
  obtain ⟨hA, h14, hZ, hC⟩ := hQ
  have e5 := hs.2.1 145 (by decide) (by decide) (by decide) (by decide) (by decide) (by decide) (by decide)
  have e7 := hs.2.1 147 (by decide) (by decide) (by decide) (by decide) (by decide) (by decide) (by decide)
  exact ⟨⟨fun k hk => by rw [e5]; exact hA.1 k hk, fun k hk => by rw [e7]; exact hA.2 k hk⟩, (hs.2.2.1 14 (by decide) (by decide) (by decide)).trans h14, hZ, hC⟩
theorem MH.to {h h' : gH} {n m : Nat} {U K : Nat → Nat → Nat} (hH : MH h n U m K) (e20 : h'.1 142 20 = h.1 142 20) (e21 : h'.1 142 21 = h.1 142 21) (e8 : h'.1 148 = h.1 148) (e9 : h'.1 149 = h.1 149) : MH h' n U m K := by
  obtain ⟨a0, a1, hn, hm, hU, hK⟩ := hH
  exact ⟨e20.trans a0, e21.trans a1, hn, hm, fun k hk j hj => by rw [e8]; exact hU k hk j hj, fun i hi j hj => by rw [e9]; exact hK i hi j hj⟩
theorem MST.ms {h h' : gH} {T : Nat → Nat} {s : gSt} (hX : MST h T s) (hs : MS h h') : MST h' T s :=
  ⟨hX.1.ms hs, hX.2.1.to (hs.2.2.1 20 (by decide) (by decide) (by decide)) (hs.2.2.1 21 (by decide) (by decide) (by decide)) (hs.2.1 148 (by decide) (by decide) (by decide) (by decide) (by decide) (by decide) (by decide)) (hs.2.1 149 (by decide) (by decide) (by decide) (by decide) (by decide) (by decide) (by decide)), hX.2.2⟩
def qMA (r : (Int × Int) × gSt) (h : gH) (T : Nat → Nat) : Option Value → gH → Prop := fun v h' => v = some (.int (zI r.1.1)) ∧ h'.1 142 11 = r.1.2 ∧ YM h h' ∧ MST h' T r.2
theorem qMA_n {r : (Int × Int) × gSt} {h h' : gH} {T : Nat → Nat} {s : gSt} {a tr : Int} (e : r = ((a, tr), s)) (hX : MST h T s) (hs : MS h h') (hb : h'.1 142 11 = tr) : qMA r h T (some (.int (zI a))) h' := by
  subst e
  exact ⟨rfl, hb, hs.ym, hX.ms hs⟩
/-- an act done: only the present, the book and its counts have changed since 'good' -/
theorem qMA_a {r : (Int × Int) × gSt} {h h' : gH} {T : Nat → Nat} {s : gSt} {a : Int} (e : r = ((a, 0), s)) (e2 : h'.2 = (mG h).2) (eo : ∀ o, o ≠ 142 → o ≠ 147 → o ≠ 148 → o ≠ 149 → h'.1 o = (mG h).1 o) (ek : ∀ k, k ≠ 20 → k ≠ 21 → h'.1 142 k = (mG h).1 142 k) (hX : MST h' T s) : qMA r h T (some (.int (zI a))) h' := by
  subst e
  obtain ⟨g1, g2, g3, g4⟩ := MS.good h
  exact ⟨rfl, (ek 11 (by decide) (by decide)).trans rfl, ⟨e2.trans g1, fun o o1 o2 o3 o4 o5 o6 o7 o8 o9 o10 => (eo o o1 o2 o3 o4).trans (g2 o o1 o5 o6 o7 o8 o9 o10), fun k k0 k1 k2 k3 k4 => (ek k k2 k3).trans (g3 k k0 k1 k4), (ek 0 (by decide) (by decide)).trans g4⟩, hX⟩
theorem m_undo {h : gH} {T : Nat → Nat} {s : gSt} (hX : MST h T s) : gSp 12 yX11_undo cX11_undo 1 (some .boolean) [.ref 142] h (qMA (rUndo s) h T) := by
  obtain ⟨hQ, hH, hV⟩ := id hX
  have hQ2 : mQ (mG h) T s.1 := hQ
  have hH2 : MH (mG h) s.2.1.1 s.2.1.2 s.2.2.1 s.2.2.2 := hH
  obtain ⟨e20, e21, hn, hm, hU, hK⟩ := id hH2
  obtain ⟨v1, v2, v3, v4, v5⟩ := id hV
  refine gSp_of (by decide +kernel) (Nat.le_of_ble_eq_true rfl) ?_
  show gJ RX11 cX11_undo 1 (some .boolean) _ 0 [some (.ref 142)] [] _ _
  refine gj_aload_n (pc' := 1) dX11_undo_0 rfl rfl ?_
  refine gc_X11_153 (pc' := 4) dX11_undo_1 rfl (m_good) rfl (by first | rfl | assumption) (by decide) rfl (Nat.le_of_ble_eq_true rfl) (fun v9 h9 q9 => ?_)
  obtain ⟨rfl, rfl⟩ := q9
  show gJ _ _ _ _ _ _ _ [] _ _
  refine gj_aload_n (pc' := 5) dX11_undo_4 rfl rfl ?_
  refine gf_X11_169 (pc' := 8) dX11_undo_5 rfl (by first | rfl | assumption) rfl ?_
  rw [e20]
  refine gj_if_ne (pc' := 11) (tgt := 18) dX11_undo_8 (by decide) rfl (by omega) (fun c8 => ?_) (fun c8 => ?_)
  · refine gj_aload_n (pc' := 19) dX11_undo_18 rfl rfl ?_
    refine gj_dup (pc' := 20) dX11_undo_19 rfl rfl ?_
    refine gf_X11_169 (pc' := 23) dX11_undo_20 rfl (by first | rfl | assumption) rfl ?_
    rw [e20]
    refine gj_iconst (pc' := 24) dX11_undo_23 rfl ?_
    refine gj_isub (pc' := 25) dX11_undo_24 rfl ?_
    refine gp_X11_169 (pc' := 28) dX11_undo_25 rfl (by first | rfl | assumption) rfl ?_
    refine gj_aload_n (pc' := 29) dX11_undo_28 rfl rfl ?_
    refine gf_X11_29 (pc' := 32) dX11_undo_29 rfl (by first | rfl | assumption) rfl ?_
    refine gj_bipush (pc' := 34) dX11_undo_32 rfl (by decide) ?_
    refine gj_aload_n (pc' := 35) dX11_undo_34 rfl rfl ?_
    refine gf_X11_169 (pc' := 38) dX11_undo_35 rfl (by first | rfl | assumption) rfl ?_
    rw [gui_s, up1_s]
    refine gj_imul (pc' := 39) dX11_undo_38 rfl ?_
    rw [show (22 : Int) * ((s.2.1.1 : Int) - 1) = ((22 * (s.2.1.1 - 1) : Nat) : Int) by omega]
    refine gj_aload_n (pc' := 40) dX11_undo_39 rfl rfl ?_
    refine gf_X11_26 (pc' := 43) dX11_undo_40 rfl (by first | rfl | assumption) rfl ?_
    refine gj_iconst (pc' := 44) dX11_undo_43 rfl ?_
    refine gj_bipush (pc' := 46) dX11_undo_44 rfl (by decide) ?_
    refine gc_X11_162 (pc' := 49) dX11_undo_46 rfl (m_copy (o := 148) (p := 22 * (s.2.1.1 - 1)) (o2 := 147) (q := 0) (n := 22) rfl rfl (by decide) (by omega) (by decide) (by decide) (by decide)) rfl (by decide) rfl (Nat.le_of_ble_eq_true rfl) (fun v9 h9 q9 => ?_)
    obtain ⟨rfl, q0, q1, q2⟩ := q9
    show gJ _ _ _ _ _ _ _ [] _ _
    refine gj_iconst (pc' := 50) dX11_undo_49 rfl ?_
    refine gj_zret rfl (by first | rfl | exact gnZ _ | assumption) dX11_undo_50 ?_
    have hn0 : s.2.1.1 ≠ 0 := by omega
    have hM := hQ2.mi (by omega)
    refine qMA_a (s := (s.2.1.2 (s.2.1.1 - 1), (s.2.1.1 - 1, s.2.1.2), s.2.2)) (a := 1) (by unfold rUndo; rw [if_neg hn0]) q0 (fun o o1 o2 _ _ => (q1 o o2).trans (gui_n o1)) (fun k k1 _ => by rw [q1 142 (by decide), gui_s, up1_n k1]) ⟨hQ2.to ((q1 145 (by decide)).trans (gui_n (by decide))) (by rw [q1 142 (by decide), gui_s, up1_n (by decide)]) (fun j hj => ?_) ⟨hM.2.1, v1 _ (by omega)⟩, ⟨?_, ?_, ?_, hm, fun k hk j hj => ?_, fun i hi j hj => ?_⟩, ⟨fun k hk2 => v1 k (by have : k < s.2.1.1 - 1 := hk2; omega), v2, by show s.2.1.1 - 1 ≤ 16; omega, v4, fun q => absurd (v5 q).1 hn0⟩⟩
    · rw [q2, if_pos (by omega), gui_n (by decide)]; exact hU (s.2.1.1 - 1) (by omega) j hj
    · rw [q1 142 (by decide), gui_s, up1_s]
      show _ = ((s.2.1.1 - 1 : Nat) : Int)
      omega
    · rw [q1 142 (by decide), gui_s, up1_n (by decide)]; exact e21
    · show s.2.1.1 - 1 ≤ 16
      omega
    · have hk2 : k < s.2.1.1 - 1 := hk
      rw [q1 148 (by decide), gui_n (by decide)]; exact hU k (by omega) j hj
    · rw [q1 149 (by decide), gui_n (by decide)]; exact hK i hi j hj
  · refine gj_aload_n (pc' := 12) dX11_undo_11 rfl rfl ?_
    refine gj_bipush (pc' := 14) dX11_undo_12 rfl (by decide) ?_
    refine gc_X11_405 (pc' := 17) dX11_undo_14 rfl (m_isNot) rfl (by first | rfl | assumption) (by decide) rfl (Nat.le_of_ble_eq_true rfl) (fun v9 h9 q9 => ?_)
    obtain ⟨rfl, rfl⟩ := q9
    show gJ _ _ _ _ _ _ _ [.int (zI 0)] _ _
    refine gj_zret rfl (by first | rfl | exact gnZ _ | assumption) dX11_undo_17 ?_
    exact qMA_n (a := 0) (tr := 6) (by unfold rUndo; rw [if_pos (by omega)]) hX (MS.no h 6) rfl
theorem m_image {h : gH} {T : Nat → Nat} {s : gSt} (hX : MST h T s) : gSp 12 yX11_image cX11_image 1 (some .int) [.ref 142] h (qMA (rImage T s) h T) := by
  obtain ⟨hQ, hH, hV⟩ := id hX
  have hQ2 : mQ (mG h) T s.1 := hQ
  have hH2 : MH (mG h) s.2.1.1 s.2.1.2 s.2.2.1 s.2.2.2 := hH
  obtain ⟨e20, e21, hn, hm, hU, hK⟩ := id hH2
  obtain ⟨v1, v2, v3, v4, v5⟩ := id hV
  refine gSp_of (by decide +kernel) (Nat.le_of_ble_eq_true rfl) ?_
  show gJ RX11 cX11_image 1 (some .int) _ 0 [some (.ref 142)] [] _ _
  refine gj_aload_n (pc' := 1) dX11_image_0 rfl rfl ?_
  refine gc_X11_153 (pc' := 4) dX11_image_1 rfl (m_good) rfl (by first | rfl | assumption) (by decide) rfl (Nat.le_of_ble_eq_true rfl) (fun v9 h9 q9 => ?_)
  obtain ⟨rfl, rfl⟩ := q9
  show gJ _ _ _ _ _ _ _ [] _ _
  refine gj_aload_n (pc' := 5) dX11_image_4 rfl rfl ?_
  refine gf_X11_166 (pc' := 8) dX11_image_5 rfl (by first | rfl | assumption) rfl ?_
  rw [hQ2.2.1]
  first | refine gj_ifB_ne (pc' := 11) (tgt := 17) dX11_image_8 (by decide) rfl (fun c8 => ?_) (fun c8 => ?_) | refine gj_if_ne (pc' := 11) (tgt := 17) dX11_image_8 (by decide) rfl (by omega) (fun c8 => ?_) (fun c8 => ?_)
  · first | have g8 := of_decide_eq_true c8 | have g8 := of_decide_eq_false c8 | skip
    refine gj_aload_n (pc' := 18) dX11_image_17 rfl rfl ?_
    refine gf_X11_172 (pc' := 21) dX11_image_18 rfl (by first | rfl | assumption) rfl ?_
    rw [e21]
    refine gj_iconst (pc' := 22) dX11_image_21 rfl ?_
    refine gj_icmp_ne (pc' := 25) (tgt := 31) dX11_image_22 (by decide) rfl (by omega) (fun c22 => ?_) (fun c22 => ?_)
    · refine gj_aload_n (pc' := 32) dX11_image_31 rfl rfl ?_
      refine gf_X11_26 (pc' := 35) dX11_image_32 rfl (by first | rfl | assumption) rfl ?_
      refine gj_iconst (pc' := 36) dX11_image_35 rfl ?_
      refine gj_aload_n (pc' := 37) dX11_image_36 rfl rfl ?_
      refine gf_X11_32 (pc' := 40) dX11_image_37 rfl (by first | rfl | assumption) rfl ?_
      refine gj_bipush (pc' := 42) dX11_image_40 rfl (by decide) ?_
      refine gj_aload_n (pc' := 43) dX11_image_42 rfl rfl ?_
      refine gf_X11_172 (pc' := 46) dX11_image_43 rfl (by first | rfl | assumption) rfl ?_
      rw [e21]
      refine gj_imul (pc' := 47) dX11_image_46 rfl ?_
      rw [show (22 : Int) * (s.2.2.1 : Int) = ((22 * s.2.2.1 : Nat) : Int) by omega]
      refine gj_bipush (pc' := 49) dX11_image_47 rfl (by decide) ?_
      refine gc_X11_162 (pc' := 52) dX11_image_49 rfl (m_copy (o := 147) (p := 0) (o2 := 149) (q := 22 * s.2.2.1) (n := 22) rfl rfl (by decide) (by decide) (by omega) (by decide) (by decide)) rfl (by decide) rfl (Nat.le_of_ble_eq_true rfl) (fun v9 h9 q9 => ?_)
      obtain ⟨rfl, q0, q1, q2⟩ := q9
      show gJ _ _ _ _ _ _ _ [] _ _
      refine gj_aload_n (pc' := 53) dX11_image_52 rfl rfl ?_
      refine gj_dup (pc' := 54) dX11_image_53 rfl rfl ?_
      refine gf_X11_172 (pc' := 57) dX11_image_54 rfl (by first | rfl | assumption) rfl ?_
      rw [q1 142 (by decide), e21]
      refine gj_iconst (pc' := 58) dX11_image_57 rfl ?_
      refine gj_iadd (pc' := 59) dX11_image_58 rfl ?_
      refine gp_X11_172 (pc' := 62) dX11_image_59 rfl (by first | rfl | assumption) rfl ?_
      refine gj_aload_n (pc' := 63) dX11_image_62 rfl rfl ?_
      refine gf_X11_172 (pc' := 66) dX11_image_63 rfl (by first | rfl | assumption) rfl ?_
      rw [gui_s, up1_s]
      refine gj_iconst (pc' := 67) dX11_image_66 rfl ?_
      refine gj_isub (pc' := 68) dX11_image_67 rfl ?_
      rw [show (s.2.2.1 : Int) + 1 - 1 = (s.2.2.1 : Int) by omega]
      refine gj_iret rfl dX11_image_68 ?_
      have hm3 : s.2.2.1 ≠ 3 := by omega
      have hM := hQ2.mi (by omega)
      refine qMA_a (s := (s.1, s.2.1, (s.2.2.1 + 1, fun i => if i = s.2.2.1 then s.1 else s.2.2.2 i))) (by unfold rImage; rw [if_neg (by omega), if_neg hm3]) q0 (fun o o1 _ _ o4 => (gui_n o1).trans (q1 o o4)) (fun k _ k2 => by rw [gui_s, up1_n k2, q1 142 (by decide)]) ⟨hQ2.to ((gui_n (by decide)).trans (q1 145 (by decide))) (by rw [gui_s, up1_n (by decide), q1 142 (by decide)]) (fun j hj => ?_) ⟨hM.2.1, hM.2.2⟩, ⟨?_, ?_, hn, ?_, fun k hk j hj => ?_, fun i hi j hj => ?_⟩, ⟨v1, fun i hi => ?_, v3, ?_, fun q => by omega⟩⟩
      · rw [gui_n (by decide), q1 147 (by decide)]; exact hM.1.2 j hj
      · rw [gui_s, up1_n (by decide), q1 142 (by decide)]; exact e20
      · rw [gui_s, up1_s]
        show _ = ((s.2.2.1 + 1 : Nat) : Int)
        omega
      · show s.2.2.1 + 1 ≤ 3
        omega
      · rw [gui_n (by decide), q1 148 (by decide)]; exact hU k hk j hj
      · have hi2 : i < s.2.2.1 + 1 := hi
        show _ = ((if i = s.2.2.1 then s.1 else s.2.2.2 i : Nat → Nat) j : Int)
        rw [gui_n (by decide), q2]
        by_cases c : i = s.2.2.1
        · rw [if_pos c, if_pos (by omega), show 0 + (22 * i + j - 22 * s.2.2.1) = j by omega]; exact hM.1.2 j hj
        · rw [if_neg c, if_neg (by omega)]; exact hK i (by omega) j hj
      · have hi2 : i < s.2.2.1 + 1 := hi
        show SV T (if i = s.2.2.1 then s.1 else s.2.2.2 i)
        by_cases c : i = s.2.2.1
        · rw [if_pos c]; exact hM.2.2
        · rw [if_neg c]; exact v2 i (by omega)
      · show s.2.2.1 + 1 ≤ 3
        omega
    · refine gj_aload_n (pc' := 26) dX11_image_25 rfl rfl ?_
      refine gj_iconst (pc' := 27) dX11_image_26 rfl ?_
      refine gc_X11_156 (pc' := 30) dX11_image_27 rfl (m_no) rfl (by first | rfl | assumption) (by decide) rfl (Nat.le_of_ble_eq_true rfl) (fun v9 h9 q9 => ?_)
      obtain ⟨rfl, rfl⟩ := q9
      show gJ _ _ _ _ _ _ _ (.int (zI (-1)) :: _) _ _
      refine gj_iret rfl dX11_image_30 ?_
      exact qMA_n (tr := 3) (by unfold rImage; rw [if_neg (by omega), if_pos (by omega)]) hX (MS.no h 3) rfl
  · first | have g8 := of_decide_eq_true c8 | have g8 := of_decide_eq_false c8 | skip
    refine gj_aload_n (pc' := 12) dX11_image_11 rfl rfl ?_
    refine gj_iconst (pc' := 13) dX11_image_12 rfl ?_
    refine gc_X11_156 (pc' := 16) dX11_image_13 rfl (m_no) rfl (by first | rfl | assumption) (by decide) rfl (Nat.le_of_ble_eq_true rfl) (fun v9 h9 q9 => ?_)
    obtain ⟨rfl, rfl⟩ := q9
    show gJ _ _ _ _ _ _ _ (.int (zI (-1)) :: _) _ _
    refine gj_iret rfl dX11_image_16 ?_
    exact qMA_n (tr := 1) (by unfold rImage; rw [if_pos (by omega)]) hX (MS.no h 1) rfl
theorem m_back {h : gH} {T : Nat → Nat} {s : gSt} {a : Int} (hX : MST h T s) (ha : inB a) : gSp 12 yX11_back cX11_back 2 (some .boolean) [.ref 142, .int (zI a)] h (qMA (rBack s a) h T) := by
  unfold inB at ha
  obtain ⟨hQ, hH, hV⟩ := id hX
  have hQ2 : mQ (mG h) T s.1 := hQ
  have hH2 : MH (mG h) s.2.1.1 s.2.1.2 s.2.2.1 s.2.2.2 := hH
  obtain ⟨e20, e21, hn, hm, hU, hK⟩ := id hH2
  obtain ⟨v1, v2, v3, v4, v5⟩ := id hV
  refine gSp_of (by decide +kernel) (Nat.le_of_ble_eq_true rfl) ?_
  show gJ RX11 cX11_back 2 (some .boolean) _ 0 [some (.ref 142), some (.int (zI a))] [] _ _
  refine gj_aload_n (pc' := 1) dX11_back_0 rfl rfl ?_
  refine gc_X11_153 (pc' := 4) dX11_back_1 rfl (m_good) rfl (by first | rfl | assumption) (by decide) rfl (Nat.le_of_ble_eq_true rfl) (fun v9 h9 q9 => ?_)
  obtain ⟨rfl, rfl⟩ := q9
  show gJ _ _ _ _ _ _ _ [] _ _
  refine gj_iload_n (pc' := 5) dX11_back_4 rfl rfl ?_
  refine gj_iconst (pc' := 6) dX11_back_5 rfl ?_
  refine gj_aload_n (pc' := 7) dX11_back_6 rfl rfl ?_
  refine gf_X11_172 (pc' := 10) dX11_back_7 rfl (by first | rfl | assumption) rfl ?_
  rw [e21]
  refine gj_iconst (pc' := 11) dX11_back_10 rfl ?_
  refine gj_isub (pc' := 12) dX11_back_11 rfl ?_
  refine gr_X11_138 (pc' := 15) dX11_back_12 rfl (m_in ha (by omega) (by omega)) rfl (by decide) rfl (Nat.le_of_ble_eq_true rfl) ?_
  first | refine gj_ifB_ne (pc' := 18) (tgt := 24) dX11_back_15 (by decide) rfl (fun c15 => ?_) (fun c15 => ?_) | refine gj_if_ne (pc' := 18) (tgt := 24) dX11_back_15 (by decide) rfl (by omega) (fun c15 => ?_) (fun c15 => ?_)
  · first | have g15 := of_decide_eq_true c15 | have g15 := of_decide_eq_false c15 | skip
    obtain ⟨i, rfl⟩ : ∃ i : Nat, a = (i : Int) := ⟨a.toNat, by omega⟩
    refine gj_aload_n (pc' := 25) dX11_back_24 rfl rfl ?_
    refine gf_X11_32 (pc' := 28) dX11_back_25 rfl (by first | rfl | assumption) rfl ?_
    refine gj_bipush (pc' := 30) dX11_back_28 rfl (by decide) ?_
    refine gj_iload_n (pc' := 31) dX11_back_30 rfl rfl ?_
    refine gj_imul (pc' := 32) dX11_back_31 rfl ?_
    rw [show (22 : Int) * (i : Int) = ((22 * i : Nat) : Int) by omega]
    refine gj_aload_n (pc' := 33) dX11_back_32 rfl rfl ?_
    refine gf_X11_26 (pc' := 36) dX11_back_33 rfl (by first | rfl | assumption) rfl ?_
    refine gj_iconst (pc' := 37) dX11_back_36 rfl ?_
    refine gj_bipush (pc' := 39) dX11_back_37 rfl (by decide) ?_
    refine gc_X11_162 (pc' := 42) dX11_back_39 rfl (m_copy (o := 149) (p := 22 * i) (o2 := 147) (q := 0) (n := 22) rfl rfl (by decide) (by omega) (by decide) (by decide) (by decide)) rfl (by decide) rfl (Nat.le_of_ble_eq_true rfl) (fun v9 h9 q9 => ?_)
    obtain ⟨rfl, q0, q1, q2⟩ := q9
    show gJ _ _ _ _ _ _ _ [] _ _
    refine gj_aload_n (pc' := 43) dX11_back_42 rfl rfl ?_
    refine gj_iconst (pc' := 44) dX11_back_43 rfl ?_
    refine gp_X11_169 (pc' := 47) dX11_back_44 rfl (by first | rfl | assumption) rfl ?_
    refine gj_iconst (pc' := 48) dX11_back_47 rfl ?_
    refine gj_zret rfl (by first | rfl | exact gnZ _ | assumption) dX11_back_48 ?_
    have hm0 : s.2.2.1 ≠ 0 := by omega
    have h30 : T 3 ≠ 0 := fun q => hm0 (v5 q).2
    have hM := hQ2.mi (by omega)
    refine qMA_a (s := (s.2.2.2 i, (0, s.2.1.2), s.2.2)) (a := 1) (by unfold rBack; rw [if_pos (by omega)]; rfl) q0 (fun o o1 o2 _ _ => (gui_n o1).trans (q1 o o2)) (fun k k1 _ => by rw [gui_s, up1_n k1, q1 142 (by decide)]) ⟨hQ2.to ((gui_n (by decide)).trans (q1 145 (by decide))) (by rw [gui_s, up1_n (by decide), q1 142 (by decide)]) (fun j hj => ?_) ⟨hM.2.1, v2 _ (by omega)⟩, ⟨?_, ?_, Nat.zero_le _, hm, fun k hk j hj => absurd hk (Nat.not_lt_zero k), fun i2 hi j hj => ?_⟩, ⟨fun k hk2 => absurd hk2 (Nat.not_lt_zero k), v2, Nat.zero_le _, v4, fun q => absurd q h30⟩⟩
    · rw [gui_n (by decide), q2, if_pos (by omega)]; exact hK i (by omega) j hj
    · rw [gui_s, up1_s]; rfl
    · rw [gui_s, up1_n (by decide), q1 142 (by decide)]; exact e21
    · rw [gui_n (by decide), q1 149 (by decide)]; exact hK i2 hi j hj
  · first | have g15 := of_decide_eq_true c15 | have g15 := of_decide_eq_false c15 | skip
    refine gj_aload_n (pc' := 19) dX11_back_18 rfl rfl ?_
    refine gj_iconst (pc' := 20) dX11_back_19 rfl ?_
    refine gc_X11_405 (pc' := 23) dX11_back_20 rfl (m_isNot) rfl (by first | rfl | assumption) (by decide) rfl (Nat.le_of_ble_eq_true rfl) (fun v9 h9 q9 => ?_)
    obtain ⟨rfl, rfl⟩ := q9
    show gJ _ _ _ _ _ _ _ [.int (zI 0)] _ _
    refine gj_zret rfl (by first | rfl | exact gnZ _ | assumption) dX11_back_23 ?_
    exact qMA_n (a := 0) (tr := 1) (by unfold rBack; rw [if_neg (by omega)]) hX (MS.no h 1) rfl
