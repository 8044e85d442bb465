/-! the model's face: questions -/
theorem m_isHouseQ {h : gH} {T S : Nat → Nat} {a : Int} (hQ : mQ h T S) (ha : inB a) : gSp 2 yX11_isHouse cX11_isHouse 2 (some .boolean) [.ref 142, .int (zI a)] h (gR (.int (zI (bI (decide (0 ≤ a ∧ a < (T 3 : Int)))))) h) := by
  have e : (decide (T 3 ≠ 0) && decide (0 ≤ a ∧ a < (T 3 : Int))) = decide (0 ≤ a ∧ a < (T 3 : Int)) := by
    rw [Bool.eq_iff_iff]; simp; omega
  have := m_isHouse (v := a) hQ.1 hQ.2.1 hQ.2.2.1.1 ha
  rw [e] at this
  exact this
theorem m_isBirdQ {h : gH} {T S : Nat → Nat} {a : Int} (hQ : mQ h T S) (ha : inB a) : gSp 2 yX11_isBird cX11_isBird 2 (some .boolean) [.ref 142, .int (zI a)] h (gR (.int (zI (bI (decide (0 ≤ a ∧ a < (T 4 : Int)))))) h) := by
  have h0 : T 3 = 0 → T 4 = 0 := by
    obtain ⟨_, _, _, q | q⟩ := hQ
    · omega
    · have := q.1.2.2.2.1; omega
  have e : (decide (T 3 ≠ 0) && decide (0 ≤ a ∧ a < (T 4 : Int))) = decide (0 ≤ a ∧ a < (T 4 : Int)) := by
    rw [Bool.eq_iff_iff]; simp; omega
  have := m_isBird (v := a) hQ.1 hQ.2.1 hQ.2.2.1.2.1 ha
  rw [e] at this
  exact this
theorem m_areHousesQ {h : gH} {T S : Nat → Nat} {a b : Int} (hQ : mQ h T S) (ha : inB a) (hb : inB b) : gSp 3 yX11_areHouses cX11_areHouses 3 (some .boolean) [.ref 142, .int (zI a), .int (zI b)] h (gR (.int (zI (bI (decide ((0 ≤ a ∧ a < (T 3 : Int)) ∧ (0 ≤ b ∧ b < (T 3 : Int)) ∧ a ≠ b))))) h) := by
  have e : (decide (T 3 ≠ 0) && decide (0 ≤ a ∧ a < (T 3 : Int)) && (decide (T 3 ≠ 0) && decide (0 ≤ b ∧ b < (T 3 : Int))) && decide (a ≠ b)) = decide ((0 ≤ a ∧ a < (T 3 : Int)) ∧ (0 ≤ b ∧ b < (T 3 : Int)) ∧ a ≠ b) := by
    rw [Bool.eq_iff_iff]; simp; omega
  have := m_areHouses (v := a) (w := b) hQ.1 hQ.2.1 hQ.2.2.1.1 ha hb
  rw [e] at this
  exact this
theorem m_areTwoQ {h : gH} {T S : Nat → Nat} {a b : Int} (hQ : mQ h T S) (ha : inB a) (hb : inB b) : gSp 3 yX11_areTwo cX11_areTwo 3 (some .boolean) [.ref 142, .int (zI a), .int (zI b)] h (gR (.int (zI (bI (decide ((0 ≤ a ∧ a < (T 4 : Int)) ∧ (0 ≤ b ∧ b < (T 4 : Int)) ∧ a ≠ b))))) h) := by
  have h0 : T 3 = 0 → T 4 = 0 := by
    obtain ⟨_, _, _, q | q⟩ := hQ
    · omega
    · have := q.1.2.2.2.1; omega
  have e : (decide (T 3 ≠ 0) && decide (0 ≤ a ∧ a < (T 4 : Int)) && (decide (T 3 ≠ 0) && decide (0 ≤ b ∧ b < (T 4 : Int))) && decide (a ≠ b)) = decide ((0 ≤ a ∧ a < (T 4 : Int)) ∧ (0 ≤ b ∧ b < (T 4 : Int)) ∧ a ≠ b) := by
    rw [Bool.eq_iff_iff]; simp; omega
  have := m_areTwo (v := a) (w := b) hQ.1 hQ.2.1 hQ.2.2.1.2.1 ha hb
  rw [e] at this
  exact this
theorem why_cs {C : Prop} [Decidable C] {b m : Int} : ∃ w : Int, (if decide C = false then (1 : Int) else if 0 ≤ b ∧ b ≤ m then 0 else 2) = w ∧ ((w = 1 ∧ ¬ C) ∨ (w = 0 ∧ C ∧ 0 ≤ b ∧ b ≤ m) ∨ (w = 2 ∧ C ∧ ¬ (0 ≤ b ∧ b ≤ m))) := by
  refine ⟨_, rfl, ?_⟩
  by_cases q : C
  · rw [if_neg (by simp [q])]
    by_cases z : 0 ≤ b ∧ b ≤ m
    · rw [if_pos z]; exact Or.inr (Or.inl ⟨rfl, q, z⟩)
    · rw [if_neg z]; exact Or.inr (Or.inr ⟨rfl, q, z⟩)
  · rw [if_pos (by simp [q])]; exact Or.inl ⟨rfl, q⟩
theorem fstN_ne {p : Nat → Bool} {j : Nat} (hp : p j = true) : ∀ N, j < N → fstN p N ≠ -2
  | 0, h => absurd h (by omega)
  | N + 1, h => by
    rw [fstN_s]
    by_cases q : fstN p N = -2
    · by_cases z : j = N
      · subst z; rw [if_pos ⟨q, hp⟩]; omega
      · exact absurd q (fstN_ne hp N (by omega))
    · rw [if_neg (fun z => q z.1)]; exact q
theorem sSum_ag (T S : Nat → Nat) (h : Nat) : sSum T S (sAg T S h) = sOwe T S h := by
  unfold sSum sOwe
  refine sN_congr (fun i hi => ?_)
  show (if (bN (sFor T S h) (T 4)).testBit i = true then _ else 0) = _
  rw [bN_bit]
  simp [hi]

theorem m_house {h : gH} {T S : Nat → Nat} {a b : Int} (hQ : mQ h T S) (ha : inB a) (hb : inB b) : gSp 12 yX11_house cX11_house 3 (some .int) [.ref 142, .int (zI a), .int (zI b)] h (qM (aHouse T S a b).1 (aHouse T S a b).2 h) := by
  obtain ⟨hA, hH, hZ, -⟩ := id hQ
  have hH2 : (mG h).1 142 14 = bI (decide (T 3 ≠ 0)) := hH
  have ha2 := ha
  unfold inB at ha2
  have hb2 := hb
  unfold inB at hb2
  refine gSp_of (by decide +kernel) (Nat.le_of_ble_eq_true rfl) ?_
  show gJ RX11 cX11_house 3 (some .int) _ 0 [some (.ref 142), some (.int (zI a)), some (.int (zI b))] [] _ _
  refine gj_aload_n (pc' := 1) dX11_house_0 rfl rfl ?_
  refine gc_X11_153 (pc' := 4) dX11_house_1 rfl (m_good) rfl (by first | rfl | assumption) (by decide) rfl (Nat.le_of_ble_eq_true rfl) (fun v9 h9 q9 => ?_)
  obtain ⟨rfl, rfl⟩ := q9
  show gJ _ _ _ _ _ _ _ [] _ _
  refine gj_aload_n (pc' := 5) dX11_house_4 rfl rfl ?_
  refine gj_iload_n (pc' := 6) dX11_house_5 rfl rfl ?_
  refine gr_X11_277 (pc' := 9) dX11_house_6 rfl (m_isHouseQ hQ.g ha) rfl (by first | rfl | assumption) (by decide) rfl (Nat.le_of_ble_eq_true rfl) ?_
  first | refine gj_ifB_eq (pc' := 12) (tgt := 21) dX11_house_9 (by decide) rfl (fun c9 => ?_) (fun c9 => ?_) | refine gj_if_eq (pc' := 12) (tgt := 21) dX11_house_9 (by decide) rfl (by omega) (fun c9 => ?_) (fun c9 => ?_)
  · first | have g9 := of_decide_eq_true c9 | have g9 := of_decide_eq_false c9 | skip
    refine gj_aload_n (pc' := 22) dX11_house_21 rfl rfl ?_
    refine gj_iconst (pc' := 23) dX11_house_22 rfl ?_
    refine gc_X11_156 (pc' := 26) dX11_house_23 rfl (m_no) rfl (by first | rfl | assumption) (by decide) rfl (Nat.le_of_ble_eq_true rfl) (fun v9 h9 q9 => ?_)
    obtain ⟨rfl, rfl⟩ := q9
    show gJ _ _ _ _ _ _ _ (.int (zI (-1)) :: _) _ _
    refine gj_iret rfl dX11_house_26 ?_
    first | exact qM_g (by unfold aHouse; (try simp only [Int.toNat_natCast]); repeat' (first | (exfalso; omega) | split | rfl | (congr 1; omega) | simp_all)) | exact qM_n (by unfold aHouse; (try simp only [Int.toNat_natCast]); repeat' (first | (exfalso; omega) | split | rfl | (congr 1; omega) | simp_all))
  · first | have g9 := of_decide_eq_true c9 | have g9 := of_decide_eq_false c9 | skip
    refine gj_iload_n (pc' := 13) dX11_house_12 rfl rfl ?_
    refine gj_iconst (pc' := 14) dX11_house_13 rfl ?_
    refine gj_iconst (pc' := 15) dX11_house_14 rfl ?_
    refine gr_X11_138 (pc' := 18) dX11_house_15 rfl (m_in hb2 (by omega) (by omega)) rfl (by decide) rfl (Nat.le_of_ble_eq_true rfl) ?_
    first | refine gj_ifB_ne (pc' := 21) (tgt := 27) dX11_house_18 (by decide) rfl (fun c18 => ?_) (fun c18 => ?_) | refine gj_if_ne (pc' := 21) (tgt := 27) dX11_house_18 (by decide) rfl (by omega) (fun c18 => ?_) (fun c18 => ?_)
    · first | have g18 := of_decide_eq_true c18 | have g18 := of_decide_eq_false c18 | skip
      obtain ⟨n, rfl⟩ : ∃ n : Nat, a = (n : Int) := ⟨a.toNat, by omega⟩
      have hM : MI (mG h) T S := hQ.mi (by omega)
      obtain ⟨hA2, hT, hS⟩ := id hM
      have h3 := hT.2.2.2.1
      have h4 : T 4 ≤ 7 := hT.2.2.2.2.1
      have hd := hS.2.2.1
      have g19 := sv19 hT hS
      refine gj_iload_n (pc' := 28) dX11_house_27 rfl rfl ?_
      rcases (show b < 0 ∨ b = 0 ∨ b = 1 ∨ b = 2 ∨ b = 3 ∨ 3 < b by omega) with sw28 | sw28 | sw28 | sw28 | sw28 | sw28
      · refine gj_tabOut (pc' := 99) dX11_house_28 (by omega) (Or.inl sw28) (by decide) ?_
        refine gj_aload_n (pc' := 100) dX11_house_99 rfl rfl ?_
        refine gj_iload_n (pc' := 101) dX11_house_100 rfl rfl ?_
        refine gr_X11_283 (pc' := 104) dX11_house_101 rfl (m_against hM (by omega)) rfl (by first | rfl | assumption) (by decide) rfl (Nat.le_of_ble_eq_true rfl) ?_
        refine gj_iret rfl dX11_house_104 ?_
        first | exact qM_g (by unfold aHouse; (try simp only [Int.toNat_natCast]); repeat' (first | (exfalso; omega) | split | rfl | (congr 1; omega) | simp_all)) | exact qM_n (by unfold aHouse; (try simp only [Int.toNat_natCast]); repeat' (first | (exfalso; omega) | split | rfl | (congr 1; omega) | simp_all))
      · refine gj_tabIn (pc' := 60) (off := 32) dX11_house_28 (by omega) (by omega) (by omega) (by rw [sw28]; rfl) (by decide) ?_
        refine gj_aload_n (pc' := 61) dX11_house_60 rfl rfl ?_
        refine gj_iload_n (pc' := 62) dX11_house_61 rfl rfl ?_
        refine gr_X11_231 (pc' := 65) dX11_house_62 rfl (m_placeOf hA2 (by omega)) rfl (by first | rfl | assumption) (by decide) rfl (Nat.le_of_ble_eq_true rfl) ?_
        refine gj_iret rfl dX11_house_65 ?_
        first | exact qM_g (by unfold aHouse; (try simp only [Int.toNat_natCast]); repeat' (first | (exfalso; omega) | split | rfl | (congr 1; omega) | simp_all)) | exact qM_n (by unfold aHouse; (try simp only [Int.toNat_natCast]); repeat' (first | (exfalso; omega) | split | rfl | (congr 1; omega) | simp_all))
      · refine gj_tabIn (pc' := 66) (off := 38) dX11_house_28 (by omega) (by omega) (by omega) (by rw [sw28]; rfl) (by decide) ?_
        refine gj_aload_n (pc' := 67) dX11_house_66 rfl rfl ?_
        refine gf_X11_26 (pc' := 70) dX11_house_67 rfl (by first | rfl | assumption) rfl ?_
        refine gj_bipush (pc' := 72) dX11_house_70 rfl (by decide) ?_
        refine gj_iload_n (pc' := 73) dX11_house_72 rfl rfl ?_
        refine gj_iadd (pc' := 74) dX11_house_73 rfl ?_
        refine gj_iald (pc' := 75) (j := 13 + n) (by first | rfl | assumption) (by omega) (by omega) (by decide) dX11_house_74 rfl ?_
        rw [hA2.2 _ (by omega)]
        refine gj_iret rfl dX11_house_75 ?_
        first | exact qM_g (by unfold aHouse; (try simp only [Int.toNat_natCast]); repeat' (first | (exfalso; omega) | split | rfl | (congr 1; omega) | simp_all)) | exact qM_n (by unfold aHouse; (try simp only [Int.toNat_natCast]); repeat' (first | (exfalso; omega) | split | rfl | (congr 1; omega) | simp_all))
      · refine gj_tabIn (pc' := 76) (off := 48) dX11_house_28 (by omega) (by omega) (by omega) (by rw [sw28]; rfl) (by decide) ?_
        refine gj_aload_n (pc' := 77) dX11_house_76 rfl rfl ?_
        refine gf_X11_26 (pc' := 80) dX11_house_77 rfl (by first | rfl | assumption) rfl ?_
        refine gj_bipush (pc' := 82) dX11_house_80 rfl (by decide) ?_
        refine gj_iload_n (pc' := 83) dX11_house_82 rfl rfl ?_
        refine gj_iadd (pc' := 84) dX11_house_83 rfl ?_
        refine gj_iald (pc' := 85) (j := 7 + n) (by first | rfl | assumption) (by omega) (by omega) (by decide) dX11_house_84 rfl ?_
        rw [hA2.2 _ (by omega)]
        refine gj_iret rfl dX11_house_85 ?_
        first | exact qM_g (by unfold aHouse; (try simp only [Int.toNat_natCast]); repeat' (first | (exfalso; omega) | split | rfl | (congr 1; omega) | simp_all)) | exact qM_n (by unfold aHouse; (try simp only [Int.toNat_natCast]); repeat' (first | (exfalso; omega) | split | rfl | (congr 1; omega) | simp_all))
      · refine gj_tabIn (pc' := 86) (off := 58) dX11_house_28 (by omega) (by omega) (by omega) (by rw [sw28]; rfl) (by decide) ?_
        refine gj_aload_n (pc' := 87) dX11_house_86 rfl rfl ?_
        refine gj_iload_n (pc' := 88) dX11_house_87 rfl rfl ?_
        refine gj_aload_n (pc' := 89) dX11_house_88 rfl rfl ?_
        refine gf_X11_26 (pc' := 92) dX11_house_89 rfl (by first | rfl | assumption) rfl ?_
        refine gj_bipush (pc' := 94) dX11_house_92 rfl (by decide) ?_
        refine gj_iald (pc' := 95) (j := 20) (by first | rfl | assumption) (by omega) (by omega) (by decide) dX11_house_94 rfl ?_
        rw [hA2.2 20 (by omega)]
        refine gr_X11_280 (pc' := 98) dX11_house_95 rfl (m_sitting hM (by omega) (by omega)) rfl (by first | rfl | assumption) (by decide) rfl (Nat.le_of_ble_eq_true rfl) ?_
        refine gj_iret rfl dX11_house_98 ?_
        first | exact qM_g (by unfold aHouse; (try simp only [Int.toNat_natCast]); repeat' (first | (exfalso; omega) | split | rfl | (congr 1; omega) | simp_all)) | exact qM_n (by unfold aHouse; (try simp only [Int.toNat_natCast]); repeat' (first | (exfalso; omega) | split | rfl | (congr 1; omega) | simp_all))
      · refine gj_tabOut (pc' := 99) dX11_house_28 (by omega) (Or.inr sw28) (by decide) ?_
        refine gj_aload_n (pc' := 100) dX11_house_99 rfl rfl ?_
        refine gj_iload_n (pc' := 101) dX11_house_100 rfl rfl ?_
        refine gr_X11_283 (pc' := 104) dX11_house_101 rfl (m_against hM (by omega)) rfl (by first | rfl | assumption) (by decide) rfl (Nat.le_of_ble_eq_true rfl) ?_
        refine gj_iret rfl dX11_house_104 ?_
        first | exact qM_g (by unfold aHouse; (try simp only [Int.toNat_natCast]); repeat' (first | (exfalso; omega) | split | rfl | (congr 1; omega) | simp_all)) | exact qM_n (by unfold aHouse; (try simp only [Int.toNat_natCast]); repeat' (first | (exfalso; omega) | split | rfl | (congr 1; omega) | simp_all))
    · first | have g18 := of_decide_eq_true c18 | have g18 := of_decide_eq_false c18 | skip
      refine gj_aload_n (pc' := 22) dX11_house_21 rfl rfl ?_
      refine gj_iconst (pc' := 23) dX11_house_22 rfl ?_
      refine gc_X11_156 (pc' := 26) dX11_house_23 rfl (m_no) rfl (by first | rfl | assumption) (by decide) rfl (Nat.le_of_ble_eq_true rfl) (fun v9 h9 q9 => ?_)
      obtain ⟨rfl, rfl⟩ := q9
      show gJ _ _ _ _ _ _ _ (.int (zI (-1)) :: _) _ _
      refine gj_iret rfl dX11_house_26 ?_
      first | exact qM_g (by unfold aHouse; (try simp only [Int.toNat_natCast]); repeat' (first | (exfalso; omega) | split | rfl | (congr 1; omega) | simp_all)) | exact qM_n (by unfold aHouse; (try simp only [Int.toNat_natCast]); repeat' (first | (exfalso; omega) | split | rfl | (congr 1; omega) | simp_all))
theorem m_bird {h : gH} {T S : Nat → Nat} {a b : Int} (hQ : mQ h T S) (ha : inB a) (hb : inB b) : gSp 12 yX11_bird cX11_bird 3 (some .int) [.ref 142, .int (zI a), .int (zI b)] h (qM (aBird T S a b).1 (aBird T S a b).2 h) := by
  obtain ⟨hA, hH, hZ, -⟩ := id hQ
  have hH2 : (mG h).1 142 14 = bI (decide (T 3 ≠ 0)) := hH
  have ha2 := ha
  unfold inB at ha2
  have hb2 := hb
  unfold inB at hb2
  refine gSp_of (by decide +kernel) (Nat.le_of_ble_eq_true rfl) ?_
  show gJ RX11 cX11_bird 3 (some .int) _ 0 [some (.ref 142), some (.int (zI a)), some (.int (zI b))] [] _ _
  refine gj_aload_n (pc' := 1) dX11_bird_0 rfl rfl ?_
  refine gc_X11_153 (pc' := 4) dX11_bird_1 rfl (m_good) rfl (by first | rfl | assumption) (by decide) rfl (Nat.le_of_ble_eq_true rfl) (fun v9 h9 q9 => ?_)
  obtain ⟨rfl, rfl⟩ := q9
  show gJ _ _ _ _ _ _ _ [] _ _
  refine gj_aload_n (pc' := 5) dX11_bird_4 rfl rfl ?_
  refine gj_iload_n (pc' := 6) dX11_bird_5 rfl rfl ?_
  refine gr_X11_286 (pc' := 9) dX11_bird_6 rfl (m_isBirdQ hQ.g ha) rfl (by first | rfl | assumption) (by decide) rfl (Nat.le_of_ble_eq_true rfl) ?_
  first | refine gj_ifB_eq (pc' := 12) (tgt := 22) dX11_bird_9 (by decide) rfl (fun c9 => ?_) (fun c9 => ?_) | refine gj_if_eq (pc' := 12) (tgt := 22) dX11_bird_9 (by decide) rfl (by omega) (fun c9 => ?_) (fun c9 => ?_)
  · first | have g9 := of_decide_eq_true c9 | have g9 := of_decide_eq_false c9 | skip
    refine gj_aload_n (pc' := 23) dX11_bird_22 rfl rfl ?_
    refine gj_iconst (pc' := 24) dX11_bird_23 rfl ?_
    refine gc_X11_156 (pc' := 27) dX11_bird_24 rfl (m_no) rfl (by first | rfl | assumption) (by decide) rfl (Nat.le_of_ble_eq_true rfl) (fun v9 h9 q9 => ?_)
    obtain ⟨rfl, rfl⟩ := q9
    show gJ _ _ _ _ _ _ _ (.int (zI (-1)) :: _) _ _
    refine gj_iret rfl dX11_bird_27 ?_
    first | exact qM_g (by unfold aBird; (try simp only [Int.toNat_natCast]); repeat' (first | (exfalso; omega) | split | rfl | (congr 1; omega) | simp_all)) | exact qM_n (by unfold aBird; (try simp only [Int.toNat_natCast]); repeat' (first | (exfalso; omega) | split | rfl | (congr 1; omega) | simp_all))
  · first | have g9 := of_decide_eq_true c9 | have g9 := of_decide_eq_false c9 | skip
    refine gj_iload_n (pc' := 13) dX11_bird_12 rfl rfl ?_
    refine gj_iconst (pc' := 14) dX11_bird_13 rfl ?_
    refine gj_bipush (pc' := 16) dX11_bird_14 rfl (by decide) ?_
    refine gr_X11_138 (pc' := 19) dX11_bird_16 rfl (m_in hb2 (by omega) (by omega)) rfl (by decide) rfl (Nat.le_of_ble_eq_true rfl) ?_
    first | refine gj_ifB_ne (pc' := 22) (tgt := 28) dX11_bird_19 (by decide) rfl (fun c19 => ?_) (fun c19 => ?_) | refine gj_if_ne (pc' := 22) (tgt := 28) dX11_bird_19 (by decide) rfl (by omega) (fun c19 => ?_) (fun c19 => ?_)
    · first | have g19 := of_decide_eq_true c19 | have g19 := of_decide_eq_false c19 | skip
      obtain ⟨n, rfl⟩ : ∃ n : Nat, a = (n : Int) := ⟨a.toNat, by omega⟩
      have hM : MI (mG h) T S := hQ.mi (by omega)
      obtain ⟨hA2, hT, hS⟩ := id hM
      have h3 := hT.2.2.2.1
      have h4 : T 4 ≤ 7 := hT.2.2.2.2.1
      have hd := hS.2.2.1
      have g19 := sv19 hT hS
      refine gj_iload_n (pc' := 29) dX11_bird_28 rfl rfl ?_
      rcases (show b < 0 ∨ b = 0 ∨ b = 1 ∨ b = 2 ∨ b = 3 ∨ b = 4 ∨ b = 5 ∨ b = 6 ∨ 6 < b by omega) with sw29 | sw29 | sw29 | sw29 | sw29 | sw29 | sw29 | sw29 | sw29
      · refine gj_tabOut (pc' := 114) dX11_bird_29 (by omega) (Or.inl sw29) (by decide) ?_
        refine gj_aload_n (pc' := 115) dX11_bird_114 rfl rfl ?_
        refine gj_iload_n (pc' := 116) dX11_bird_115 rfl rfl ?_
        refine gj_aload_n (pc' := 117) dX11_bird_116 rfl rfl ?_
        refine gf_X11_26 (pc' := 120) dX11_bird_117 rfl (by first | rfl | assumption) rfl ?_
        refine gj_bipush (pc' := 122) dX11_bird_120 rfl (by decide) ?_
        refine gj_iald (pc' := 123) (j := 20) (by first | rfl | assumption) (by omega) (by omega) (by decide) dX11_bird_122 rfl ?_
        rw [hA2.2 20 (by omega)]
        refine gr_X11_268 (pc' := 126) dX11_bird_123 rfl (m_whereOn hM (by omega) (by omega)) rfl (by first | rfl | assumption) (by decide) rfl (Nat.le_of_ble_eq_true rfl) ?_
        refine gj_iret rfl dX11_bird_126 ?_
        first | exact qM_g (by unfold aBird; (try simp only [Int.toNat_natCast]); repeat' (first | (exfalso; omega) | split | rfl | (congr 1; omega) | simp_all)) | exact qM_n (by unfold aBird; (try simp only [Int.toNat_natCast]); repeat' (first | (exfalso; omega) | split | rfl | (congr 1; omega) | simp_all))
      · refine gj_tabIn (pc' := 72) (off := 43) dX11_bird_29 (by omega) (by omega) (by omega) (by rw [sw29]; rfl) (by decide) ?_
        refine gj_aload_n (pc' := 73) dX11_bird_72 rfl rfl ?_
        refine gj_iload_n (pc' := 74) dX11_bird_73 rfl rfl ?_
        refine gr_X11_240 (pc' := 77) dX11_bird_74 rfl (m_kindOf hA2 (by omega)) rfl (by first | rfl | assumption) (by decide) rfl (Nat.le_of_ble_eq_true rfl) ?_
        refine gj_iret rfl dX11_bird_77 ?_
        first | exact qM_g (by unfold aBird; (try simp only [Int.toNat_natCast]); repeat' (first | (exfalso; omega) | split | rfl | (congr 1; omega) | simp_all)) | exact qM_n (by unfold aBird; (try simp only [Int.toNat_natCast]); repeat' (first | (exfalso; omega) | split | rfl | (congr 1; omega) | simp_all))
      · refine gj_tabIn (pc' := 78) (off := 49) dX11_bird_29 (by omega) (by omega) (by omega) (by rw [sw29]; rfl) (by decide) ?_
        refine gj_aload_n (pc' := 79) dX11_bird_78 rfl rfl ?_
        refine gj_iload_n (pc' := 80) dX11_bird_79 rfl rfl ?_
        refine gr_X11_243 (pc' := 83) dX11_bird_80 rfl (m_fromOf hA2 (by omega)) rfl (by first | rfl | assumption) (by decide) rfl (Nat.le_of_ble_eq_true rfl) ?_
        refine gj_iret rfl dX11_bird_83 ?_
        first | exact qM_g (by unfold aBird; (try simp only [Int.toNat_natCast]); repeat' (first | (exfalso; omega) | split | rfl | (congr 1; omega) | simp_all)) | exact qM_n (by unfold aBird; (try simp only [Int.toNat_natCast]); repeat' (first | (exfalso; omega) | split | rfl | (congr 1; omega) | simp_all))
      · refine gj_tabIn (pc' := 84) (off := 55) dX11_bird_29 (by omega) (by omega) (by omega) (by rw [sw29]; rfl) (by decide) ?_
        refine gj_aload_n (pc' := 85) dX11_bird_84 rfl rfl ?_
        refine gj_iload_n (pc' := 86) dX11_bird_85 rfl rfl ?_
        refine gr_X11_237 (pc' := 89) dX11_bird_86 rfl (m_forOf hA2 (by omega)) rfl (by first | rfl | assumption) (by decide) rfl (Nat.le_of_ble_eq_true rfl) ?_
        refine gj_iret rfl dX11_bird_89 ?_
        first | exact qM_g (by unfold aBird; (try simp only [Int.toNat_natCast]); repeat' (first | (exfalso; omega) | split | rfl | (congr 1; omega) | simp_all)) | exact qM_n (by unfold aBird; (try simp only [Int.toNat_natCast]); repeat' (first | (exfalso; omega) | split | rfl | (congr 1; omega) | simp_all))
      · refine gj_tabIn (pc' := 90) (off := 61) dX11_bird_29 (by omega) (by omega) (by omega) (by rw [sw29]; rfl) (by decide) ?_
        refine gj_aload_n (pc' := 91) dX11_bird_90 rfl rfl ?_
        refine gj_iload_n (pc' := 92) dX11_bird_91 rfl rfl ?_
        refine gr_X11_246 (pc' := 95) dX11_bird_92 rfl (m_sillOf hM (by omega)) rfl (by first | rfl | assumption) (by decide) rfl (Nat.le_of_ble_eq_true rfl) ?_
        refine gj_iret rfl dX11_bird_95 ?_
        first | exact qM_g (by unfold aBird; (try simp only [Int.toNat_natCast]); repeat' (first | (exfalso; omega) | split | rfl | (congr 1; omega) | simp_all)) | exact qM_n (by unfold aBird; (try simp only [Int.toNat_natCast]); repeat' (first | (exfalso; omega) | split | rfl | (congr 1; omega) | simp_all))
      · refine gj_tabIn (pc' := 96) (off := 67) dX11_bird_29 (by omega) (by omega) (by omega) (by rw [sw29]; rfl) (by decide) ?_
        refine gj_aload_n (pc' := 97) dX11_bird_96 rfl rfl ?_
        refine gj_iload_n (pc' := 98) dX11_bird_97 rfl rfl ?_
        refine gr_X11_259 (pc' := 101) dX11_bird_98 rfl (m_flightOf hM (by omega)) rfl (by first | rfl | assumption) (by decide) rfl (Nat.le_of_ble_eq_true rfl) ?_
        refine gj_iret rfl dX11_bird_101 ?_
        first | exact qM_g (by unfold aBird; (try simp only [Int.toNat_natCast]); repeat' (first | (exfalso; omega) | split | rfl | (congr 1; omega) | simp_all)) | exact qM_n (by unfold aBird; (try simp only [Int.toNat_natCast]); repeat' (first | (exfalso; omega) | split | rfl | (congr 1; omega) | simp_all))
      · refine gj_tabIn (pc' := 102) (off := 73) dX11_bird_29 (by omega) (by omega) (by omega) (by rw [sw29]; rfl) (by decide) ?_
        refine gj_aload_n (pc' := 103) dX11_bird_102 rfl rfl ?_
        refine gj_iload_n (pc' := 104) dX11_bird_103 rfl rfl ?_
        refine gr_X11_256 (pc' := 107) dX11_bird_104 rfl (m_needOf hM (by omega)) rfl (by first | rfl | assumption) (by decide) rfl (Nat.le_of_ble_eq_true rfl) ?_
        refine gj_iret rfl dX11_bird_107 ?_
        first | exact qM_g (by unfold aBird; (try simp only [Int.toNat_natCast]); repeat' (first | (exfalso; omega) | split | rfl | (congr 1; omega) | simp_all)) | exact qM_n (by unfold aBird; (try simp only [Int.toNat_natCast]); repeat' (first | (exfalso; omega) | split | rfl | (congr 1; omega) | simp_all))
      · refine gj_tabIn (pc' := 108) (off := 79) dX11_bird_29 (by omega) (by omega) (by omega) (by rw [sw29]; rfl) (by decide) ?_
        refine gj_aload_n (pc' := 109) dX11_bird_108 rfl rfl ?_
        refine gj_iload_n (pc' := 110) dX11_bird_109 rfl rfl ?_
        refine gr_X11_274 (pc' := 113) dX11_bird_110 rfl (m_leftOf hM (by omega)) rfl (by first | rfl | assumption) (by decide) rfl (Nat.le_of_ble_eq_true rfl) ?_
        refine gj_iret rfl dX11_bird_113 ?_
        first | exact qM_g (by unfold aBird; (try simp only [Int.toNat_natCast]); repeat' (first | (exfalso; omega) | split | rfl | (congr 1; omega) | simp_all)) | exact qM_n (by unfold aBird; (try simp only [Int.toNat_natCast]); repeat' (first | (exfalso; omega) | split | rfl | (congr 1; omega) | simp_all))
      · refine gj_tabOut (pc' := 114) dX11_bird_29 (by omega) (Or.inr sw29) (by decide) ?_
        refine gj_aload_n (pc' := 115) dX11_bird_114 rfl rfl ?_
        refine gj_iload_n (pc' := 116) dX11_bird_115 rfl rfl ?_
        refine gj_aload_n (pc' := 117) dX11_bird_116 rfl rfl ?_
        refine gf_X11_26 (pc' := 120) dX11_bird_117 rfl (by first | rfl | assumption) rfl ?_
        refine gj_bipush (pc' := 122) dX11_bird_120 rfl (by decide) ?_
        refine gj_iald (pc' := 123) (j := 20) (by first | rfl | assumption) (by omega) (by omega) (by decide) dX11_bird_122 rfl ?_
        rw [hA2.2 20 (by omega)]
        refine gr_X11_268 (pc' := 126) dX11_bird_123 rfl (m_whereOn hM (by omega) (by omega)) rfl (by first | rfl | assumption) (by decide) rfl (Nat.le_of_ble_eq_true rfl) ?_
        refine gj_iret rfl dX11_bird_126 ?_
        first | exact qM_g (by unfold aBird; (try simp only [Int.toNat_natCast]); repeat' (first | (exfalso; omega) | split | rfl | (congr 1; omega) | simp_all)) | exact qM_n (by unfold aBird; (try simp only [Int.toNat_natCast]); repeat' (first | (exfalso; omega) | split | rfl | (congr 1; omega) | simp_all))
    · first | have g19 := of_decide_eq_true c19 | have g19 := of_decide_eq_false c19 | skip
      refine gj_aload_n (pc' := 23) dX11_bird_22 rfl rfl ?_
      refine gj_iconst (pc' := 24) dX11_bird_23 rfl ?_
      refine gc_X11_156 (pc' := 27) dX11_bird_24 rfl (m_no) rfl (by first | rfl | assumption) (by decide) rfl (Nat.le_of_ble_eq_true rfl) (fun v9 h9 q9 => ?_)
      obtain ⟨rfl, rfl⟩ := q9
      show gJ _ _ _ _ _ _ _ (.int (zI (-1)) :: _) _ _
      refine gj_iret rfl dX11_bird_27 ?_
      first | exact qM_g (by unfold aBird; (try simp only [Int.toNat_natCast]); repeat' (first | (exfalso; omega) | split | rfl | (congr 1; omega) | simp_all)) | exact qM_n (by unfold aBird; (try simp only [Int.toNat_natCast]); repeat' (first | (exfalso; omega) | split | rfl | (congr 1; omega) | simp_all))
theorem m_apart {h : gH} {T S : Nat → Nat} {a b : Int} (hQ : mQ h T S) (ha : inB a) (hb : inB b) : gSp 12 yX11_apart cX11_apart 3 (some .int) [.ref 142, .int (zI a), .int (zI b)] h (qM (aApart T a b).1 (aApart T a b).2 h) := by
  obtain ⟨hA, hH, hZ, -⟩ := id hQ
  have hH2 : (mG h).1 142 14 = bI (decide (T 3 ≠ 0)) := hH
  have ha2 := ha
  unfold inB at ha2
  have hb2 := hb
  unfold inB at hb2
  refine gSp_of (by decide +kernel) (Nat.le_of_ble_eq_true rfl) ?_
  show gJ RX11 cX11_apart 3 (some .int) _ 0 [some (.ref 142), some (.int (zI a)), some (.int (zI b))] [] _ _
  refine gj_aload_n (pc' := 1) dX11_apart_0 rfl rfl ?_
  refine gc_X11_153 (pc' := 4) dX11_apart_1 rfl (m_good) rfl (by first | rfl | assumption) (by decide) rfl (Nat.le_of_ble_eq_true rfl) (fun v9 h9 q9 => ?_)
  obtain ⟨rfl, rfl⟩ := q9
  show gJ _ _ _ _ _ _ _ [] _ _
  refine gj_aload_n (pc' := 5) dX11_apart_4 rfl rfl ?_
  refine gj_iload_n (pc' := 6) dX11_apart_5 rfl rfl ?_
  refine gj_iload_n (pc' := 7) dX11_apart_6 rfl rfl ?_
  refine gr_X11_289 (pc' := 10) dX11_apart_7 rfl (m_areHousesQ hQ.g ha hb) rfl (by first | rfl | assumption) (by decide) rfl (Nat.le_of_ble_eq_true rfl) ?_
  first | refine gj_ifB_eq (pc' := 13) (tgt := 22) dX11_apart_10 (by decide) rfl (fun c10 => ?_) (fun c10 => ?_) | refine gj_if_eq (pc' := 13) (tgt := 22) dX11_apart_10 (by decide) rfl (by omega) (fun c10 => ?_) (fun c10 => ?_)
  · first | have g10 := of_decide_eq_true c10 | have g10 := of_decide_eq_false c10 | skip
    refine gj_aload_n (pc' := 23) dX11_apart_22 rfl rfl ?_
    refine gj_iconst (pc' := 24) dX11_apart_23 rfl ?_
    refine gc_X11_156 (pc' := 27) dX11_apart_24 rfl (m_no) rfl (by first | rfl | assumption) (by decide) rfl (Nat.le_of_ble_eq_true rfl) (fun v9 h9 q9 => ?_)
    obtain ⟨rfl, rfl⟩ := q9
    show gJ _ _ _ _ _ _ _ (.int (zI (-1)) :: _) _ _
    refine gj_iret rfl dX11_apart_27 ?_
    first | exact qM_g (by unfold aApart; (try simp only [Int.toNat_natCast]); repeat' (first | (exfalso; omega) | split | rfl | (congr 1; omega) | simp_all)) | exact qM_n (by unfold aApart; (try simp only [Int.toNat_natCast]); repeat' (first | (exfalso; omega) | split | rfl | (congr 1; omega) | simp_all))
  · first | have g10 := of_decide_eq_true c10 | have g10 := of_decide_eq_false c10 | skip
    obtain ⟨n, rfl⟩ : ∃ n : Nat, a = (n : Int) := ⟨a.toNat, by omega⟩
    obtain ⟨m, rfl⟩ : ∃ m : Nat, b = (m : Int) := ⟨b.toNat, by omega⟩
    have hM : MI (mG h) T S := hQ.mi (by omega)
    obtain ⟨hA2, hT, hS⟩ := id hM
    have h3 := hT.2.2.2.1
    have h4 : T 4 ≤ 7 := hT.2.2.2.2.1
    have hd := hS.2.2.1
    have g19 := sv19 hT hS
    refine gj_aload_n (pc' := 14) dX11_apart_13 rfl rfl ?_
    refine gj_iload_n (pc' := 15) dX11_apart_14 rfl rfl ?_
    refine gj_iload_n (pc' := 16) dX11_apart_15 rfl rfl ?_
    refine gr_X11_249 (pc' := 19) dX11_apart_16 rfl (m_daysApart hM (by omega) (by omega)) rfl (by first | rfl | assumption) (by decide) rfl (Nat.le_of_ble_eq_true rfl) ?_
    refine gj_goto (pc' := 27) dX11_apart_19 (by decide) ?_
    refine gj_iret rfl dX11_apart_27 ?_
    first | exact qM_g (by unfold aApart; (try simp only [Int.toNat_natCast]); repeat' (first | (exfalso; omega) | split | rfl | (congr 1; omega) | simp_all)) | exact qM_n (by unfold aApart; (try simp only [Int.toNat_natCast]); repeat' (first | (exfalso; omega) | split | rfl | (congr 1; omega) | simp_all))
theorem m_birds {h : gH} {T S : Nat → Nat} (hQ : mQ h T S) : gSp 12 yX11_birds cX11_birds 1 (some .int) [.ref 142] h (qM (aTown T (nPr T S : Nat)).1 (aTown T (nPr T S : Nat)).2 h) := by
  obtain ⟨hA, hH, hZ, -⟩ := id hQ
  have hH2 : (mG h).1 142 14 = bI (decide (T 3 ≠ 0)) := hH
  refine gSp_of (by decide +kernel) (Nat.le_of_ble_eq_true rfl) ?_
  show gJ RX11 cX11_birds 1 (some .int) _ 0 [some (.ref 142)] [] _ _
  refine gj_aload_n (pc' := 1) dX11_birds_0 rfl rfl ?_
  refine gc_X11_153 (pc' := 4) dX11_birds_1 rfl (m_good) rfl (by first | rfl | assumption) (by decide) rfl (Nat.le_of_ble_eq_true rfl) (fun v9 h9 q9 => ?_)
  obtain ⟨rfl, rfl⟩ := q9
  show gJ _ _ _ _ _ _ _ [] _ _
  refine gj_aload_n (pc' := 5) dX11_birds_4 rfl rfl ?_
  refine gf_X11_166 (pc' := 8) dX11_birds_5 rfl (by first | rfl | assumption) rfl ?_
  rw [hH2]
  first | refine gj_ifB_eq (pc' := 11) (tgt := 18) dX11_birds_8 (by decide) rfl (fun c8 => ?_) (fun c8 => ?_) | refine gj_if_eq (pc' := 11) (tgt := 18) dX11_birds_8 (by decide) rfl (by omega) (fun c8 => ?_) (fun c8 => ?_)
  · first | have g8 := of_decide_eq_true c8 | have g8 := of_decide_eq_false c8 | skip
    refine gj_aload_n (pc' := 19) dX11_birds_18 rfl rfl ?_
    refine gj_iconst (pc' := 20) dX11_birds_19 rfl ?_
    refine gc_X11_156 (pc' := 23) dX11_birds_20 rfl (m_no) rfl (by first | rfl | assumption) (by decide) rfl (Nat.le_of_ble_eq_true rfl) (fun v9 h9 q9 => ?_)
    obtain ⟨rfl, rfl⟩ := q9
    show gJ _ _ _ _ _ _ _ (.int (zI (-1)) :: _) _ _
    refine gj_iret rfl dX11_birds_23 ?_
    first | exact qM_g (by unfold aTown; (try simp only [Int.toNat_natCast]); repeat' (first | (exfalso; omega) | split | rfl | (congr 1; omega) | simp_all)) | exact qM_n (by unfold aTown; (try simp only [Int.toNat_natCast]); repeat' (first | (exfalso; omega) | split | rfl | (congr 1; omega) | simp_all))
  · first | have g8 := of_decide_eq_true c8 | have g8 := of_decide_eq_false c8 | skip
    have hM : MI (mG h) T S := hQ.mi (by omega)
    obtain ⟨hA2, hT, hS⟩ := id hM
    have h3 := hT.2.2.2.1
    have h4 : T 4 ≤ 7 := hT.2.2.2.2.1
    have hd := hS.2.2.1
    have g19 := sv19 hT hS
    refine gj_aload_n (pc' := 12) dX11_birds_11 rfl rfl ?_
    refine gr_X11_292 (pc' := 15) dX11_birds_12 rfl (m_notGone hM) rfl (by first | rfl | assumption) (by decide) rfl (Nat.le_of_ble_eq_true rfl) ?_
    refine gj_goto (pc' := 23) dX11_birds_15 (by decide) ?_
    refine gj_iret rfl dX11_birds_23 ?_
    first | exact qM_g (by unfold aTown; (try simp only [Int.toNat_natCast]); repeat' (first | (exfalso; omega) | split | rfl | (congr 1; omega) | simp_all)) | exact qM_n (by unfold aTown; (try simp only [Int.toNat_natCast]); repeat' (first | (exfalso; omega) | split | rfl | (congr 1; omega) | simp_all))
theorem m_fullest {h : gH} {T S : Nat → Nat} (hQ : mQ h T S) : gSp 12 yX11_fullest cX11_fullest 3 (some .int) [.ref 142] h (qM (aTown T (aMax (fun k => sMany T S k (S 20)) (T 3) : Nat)).1 (aTown T (aMax (fun k => sMany T S k (S 20)) (T 3) : Nat)).2 h) := by
  obtain ⟨hA, hH, hZ, -⟩ := id hQ
  have hH2 : (mG h).1 142 14 = bI (decide (T 3 ≠ 0)) := hH
  refine gSp_of (by decide +kernel) (Nat.le_of_ble_eq_true rfl) ?_
  show gJ RX11 cX11_fullest 3 (some .int) _ 0 [some (.ref 142), none, none] [] _ _
  refine gj_aload_n (pc' := 1) dX11_fullest_0 rfl rfl ?_
  refine gc_X11_153 (pc' := 4) dX11_fullest_1 rfl (m_good) rfl (by first | rfl | assumption) (by decide) rfl (Nat.le_of_ble_eq_true rfl) (fun v9 h9 q9 => ?_)
  obtain ⟨rfl, rfl⟩ := q9
  show gJ _ _ _ _ _ _ _ [] _ _
  refine gj_aload_n (pc' := 5) dX11_fullest_4 rfl rfl ?_
  refine gf_X11_166 (pc' := 8) dX11_fullest_5 rfl (by first | rfl | assumption) rfl ?_
  rw [hH2]
  first | refine gj_ifB_ne (pc' := 11) (tgt := 17) dX11_fullest_8 (by decide) rfl (fun c8 => ?_) (fun c8 => ?_) | refine gj_if_ne (pc' := 11) (tgt := 17) dX11_fullest_8 (by decide) rfl (by omega) (fun c8 => ?_) (fun c8 => ?_)
  · first | have g8 := of_decide_eq_true c8 | have g8 := of_decide_eq_false c8 | skip
    have hM : MI (mG h) T S := hQ.mi (by omega)
    obtain ⟨hA2, hT, hS⟩ := id hM
    have h3 := hT.2.2.2.1
    have h4 : T 4 ≤ 7 := hT.2.2.2.2.1
    have hd := hS.2.2.1
    have g19 := sv19 hT hS
    refine gj_iconst (pc' := 18) dX11_fullest_17 rfl ?_
    refine gj_istore_n (pc' := 19) dX11_fullest_18 rfl (by decide) ?_
    refine gj_iconst (pc' := 20) dX11_fullest_19 rfl ?_
    refine gj_istore_n (pc' := 21) dX11_fullest_20 rfl (by decide) ?_
    refine gJ_wk (gJ_fI1 (L := fun b x => [some (.ref 142), some (.int (zI x)), some (.int (zI (b : Int)))]) (I := fun b x => x = ((aMax (fun k => sMany T S k (S 20)) b : Nat) : Int) ∧ 1 ≤ b) (T 3) (fun b x hb_b iv_b ih_b => ?step_1) (1) (by omega) ?x0_1 ?iv0_1) ?ll0_1
    case ll0_1 =>
      repeat' (first | exact True.intro | with_reducible exact rfl | refine And.intro ?_ ?_ | refine vI ?_ | refine vL ?_)
      all_goals first | rfl | omega
    case iv0_1 =>
      exact ⟨by rw [aMax_1]; rfl, Nat.le_refl _⟩
    have es := aMax_s (fun k => sMany T S k (S 20)) b
    have lx := aMax_lt (fun k => sMany T S k (S 20)) b iv_b.2
    have l1 : sMany T S b (S 20) ≤ 8 := pcN_le _
    have l2 : sMany T S (aMax (fun k => sMany T S k (S 20)) b) (S 20) ≤ 8 := pcN_le _
    have l3 : ∀ k, sSet T S k (S 20) < 256 := fun k => pc_lt h4
    have ec : T 3 = b → aMax (fun k => sMany T S k (S 20)) (T 3) = aMax (fun k => sMany T S k (S 20)) b := fun q => congrArg _ q
    rw [iv_b.1]
    generalize aMax (fun k => sMany T S k (S 20)) b = z at es lx l2 ec ⊢
    refine gj_iload_n (pc' := 22) dX11_fullest_21 rfl rfl ?_
    refine gj_aload_n (pc' := 23) dX11_fullest_22 rfl rfl ?_
    refine gf_X11_20 (pc' := 26) dX11_fullest_23 rfl (by first | rfl | assumption) rfl ?_
    refine gj_iconst (pc' := 27) dX11_fullest_26 rfl ?_
    refine gj_iald (pc' := 28) (j := 3) (by first | rfl | assumption) (by omega) (by omega) (by decide) dX11_fullest_27 rfl ?_
    rw [hA2.1 3 (by omega)]
    refine gj_icmp_ge (pc' := 31) (tgt := 72) dX11_fullest_28 (by decide) rfl (by omega) (fun c28 => ?_) (fun c28 => ?_)
    · refine gj_iload_n (pc' := 73) dX11_fullest_72 rfl rfl ?_
      refine gj_iret rfl dX11_fullest_73 ?_
      exact qM_g (by unfold aTown; rw [if_pos (by omega), ec (by omega)])
    · refine gj_aload_n (pc' := 32) dX11_fullest_31 rfl rfl ?_
      refine gj_iload_n (pc' := 33) dX11_fullest_32 rfl rfl ?_
      refine gj_aload_n (pc' := 34) dX11_fullest_33 rfl rfl ?_
      refine gf_X11_26 (pc' := 37) dX11_fullest_34 rfl (by first | rfl | assumption) rfl ?_
      refine gj_bipush (pc' := 39) dX11_fullest_37 rfl (by decide) ?_
      refine gj_iald (pc' := 40) (j := 20) (by first | rfl | assumption) (by omega) (by omega) (by decide) dX11_fullest_39 rfl ?_
      rw [hA2.2 20 (by omega)]
      refine gr_X11_280 (pc' := 43) dX11_fullest_40 rfl (m_sitting hM (by omega) (by omega)) rfl (by first | rfl | assumption) (by decide) rfl (Nat.le_of_ble_eq_true rfl) ?_
      refine gr_X11_295 (pc' := 46) dX11_fullest_43 rfl (m_ones (by have := l3 b; omega)) rfl (by decide) rfl (Nat.le_of_ble_eq_true rfl) ?_
      change gJ _ _ _ _ _ _ _ (.int (zI ((sMany T S b (S 20) : Nat) : Int)) :: _) _ _
      refine gj_aload_n (pc' := 47) dX11_fullest_46 rfl rfl ?_
      refine gj_iload_n (pc' := 48) dX11_fullest_47 rfl rfl ?_
      refine gj_aload_n (pc' := 49) dX11_fullest_48 rfl rfl ?_
      refine gf_X11_26 (pc' := 52) dX11_fullest_49 rfl (by first | rfl | assumption) rfl ?_
      refine gj_bipush (pc' := 54) dX11_fullest_52 rfl (by decide) ?_
      refine gj_iald (pc' := 55) (j := 20) (by first | rfl | assumption) (by omega) (by omega) (by decide) dX11_fullest_54 rfl ?_
      rw [hA2.2 20 (by omega)]
      refine gr_X11_280 (pc' := 58) dX11_fullest_55 rfl (m_sitting hM (by omega) (by omega)) rfl (by first | rfl | assumption) (by decide) rfl (Nat.le_of_ble_eq_true rfl) ?_
      refine gr_X11_295 (pc' := 61) dX11_fullest_58 rfl (m_ones (by have := l3 z; omega)) rfl (by decide) rfl (Nat.le_of_ble_eq_true rfl) ?_
      change gJ _ _ _ _ _ _ _ (.int (zI ((sMany T S z (S 20) : Nat) : Int)) :: _) _ _
      refine gj_icmp_le (pc' := 64) (tgt := 66) dX11_fullest_61 (by decide) rfl (by omega) (fun c61 => ?_) (fun c61 => ?_)
      · refine gj_iinc (pc' := 69) dX11_fullest_66 rfl rfl (by decide) ?_
        refine gj_goto (pc' := 21) dX11_fullest_69 (by decide) ?_
        refine gJ_wk (ih_b ?x_2 (by omega) ?iv_2) ?ll_2
        case ll_2 =>
          repeat' (first | exact True.intro | with_reducible exact rfl | refine And.intro ?_ ?_ | refine vI ?_ | refine vL ?_)
          all_goals omega
        rw [es]
        first | rw [if_pos (by omega)]; exact ⟨rfl, by omega⟩ | rw [if_neg (by omega)]; exact ⟨rfl, by omega⟩
      · refine gj_iload_n (pc' := 65) dX11_fullest_64 rfl rfl ?_
        refine gj_istore_n (pc' := 66) dX11_fullest_65 rfl (by decide) ?_
        refine gj_iinc (pc' := 69) dX11_fullest_66 rfl rfl (by decide) ?_
        refine gj_goto (pc' := 21) dX11_fullest_69 (by decide) ?_
        refine gJ_wk (ih_b ?x_3 (by omega) ?iv_3) ?ll_3
        case ll_3 =>
          repeat' (first | exact True.intro | with_reducible exact rfl | refine And.intro ?_ ?_ | refine vI ?_ | refine vL ?_)
          all_goals omega
        rw [es]
        first | rw [if_pos (by omega)]; exact ⟨rfl, by omega⟩ | rw [if_neg (by omega)]; exact ⟨rfl, by omega⟩
  · first | have g8 := of_decide_eq_true c8 | have g8 := of_decide_eq_false c8 | skip
    refine gj_aload_n (pc' := 12) dX11_fullest_11 rfl rfl ?_
    refine gj_iconst (pc' := 13) dX11_fullest_12 rfl ?_
    refine gc_X11_156 (pc' := 16) dX11_fullest_13 rfl (m_no) rfl (by first | rfl | assumption) (by decide) rfl (Nat.le_of_ble_eq_true rfl) (fun v9 h9 q9 => ?_)
    obtain ⟨rfl, rfl⟩ := q9
    show gJ _ _ _ _ _ _ _ (.int (zI (-1)) :: _) _ _
    refine gj_iret rfl dX11_fullest_16 ?_
    first | exact qM_g (by unfold aTown; (try simp only [Int.toNat_natCast]); repeat' (first | (exfalso; omega) | split | rfl | (congr 1; omega) | simp_all)) | exact qM_n (by unfold aTown; (try simp only [Int.toNat_natCast]); repeat' (first | (exfalso; omega) | split | rfl | (congr 1; omega) | simp_all))
theorem m_clean {h : gH} {T S : Nat → Nat} (hQ : mQ h T S) : gSp 12 yX11_clean cX11_clean 3 (some .int) [.ref 142] h (qM (aTown T (bN (fun k => sAg T S k == 0) (T 3) : Nat)).1 (aTown T (bN (fun k => sAg T S k == 0) (T 3) : Nat)).2 h) := by
  obtain ⟨hA, hH, hZ, -⟩ := id hQ
  have hH2 : (mG h).1 142 14 = bI (decide (T 3 ≠ 0)) := hH
  refine gSp_of (by decide +kernel) (Nat.le_of_ble_eq_true rfl) ?_
  show gJ RX11 cX11_clean 3 (some .int) _ 0 [some (.ref 142), none, none] [] _ _
  refine gj_aload_n (pc' := 1) dX11_clean_0 rfl rfl ?_
  refine gc_X11_153 (pc' := 4) dX11_clean_1 rfl (m_good) rfl (by first | rfl | assumption) (by decide) rfl (Nat.le_of_ble_eq_true rfl) (fun v9 h9 q9 => ?_)
  obtain ⟨rfl, rfl⟩ := q9
  show gJ _ _ _ _ _ _ _ [] _ _
  refine gj_aload_n (pc' := 5) dX11_clean_4 rfl rfl ?_
  refine gf_X11_166 (pc' := 8) dX11_clean_5 rfl (by first | rfl | assumption) rfl ?_
  rw [hH2]
  first | refine gj_ifB_ne (pc' := 11) (tgt := 17) dX11_clean_8 (by decide) rfl (fun c8 => ?_) (fun c8 => ?_) | refine gj_if_ne (pc' := 11) (tgt := 17) dX11_clean_8 (by decide) rfl (by omega) (fun c8 => ?_) (fun c8 => ?_)
  · first | have g8 := of_decide_eq_true c8 | have g8 := of_decide_eq_false c8 | skip
    have hM : MI (mG h) T S := hQ.mi (by omega)
    obtain ⟨hA2, hT, hS⟩ := id hM
    have h3 := hT.2.2.2.1
    have h4 : T 4 ≤ 7 := hT.2.2.2.2.1
    have hd := hS.2.2.1
    have g19 := sv19 hT hS
    refine gj_iconst (pc' := 18) dX11_clean_17 rfl ?_
    refine gj_istore_n (pc' := 19) dX11_clean_18 rfl (by decide) ?_
    refine gj_iconst (pc' := 20) dX11_clean_19 rfl ?_
    refine gj_istore_n (pc' := 21) dX11_clean_20 rfl (by decide) ?_
    refine gJ_wk (gJ_for (L := fun b => [some (.ref 142), some (.int (zI ((bN (fun k => sAg T S k == 0) b : Nat) : Int))), some (.int (zI (b : Int)))]) (T 3) (fun b hb_b ih_b => ?_) (0) (Nat.zero_le _)) ?_
    · have lb : sAg T S b < 256 := pc_lt h4
      refine gj_iload_n (pc' := 22) dX11_clean_21 rfl rfl ?_
      refine gj_aload_n (pc' := 23) dX11_clean_22 rfl rfl ?_
      refine gf_X11_20 (pc' := 26) dX11_clean_23 rfl (by first | rfl | assumption) rfl ?_
      refine gj_iconst (pc' := 27) dX11_clean_26 rfl ?_
      refine gj_iald (pc' := 28) (j := 3) (by first | rfl | assumption) (by omega) (by omega) (by decide) dX11_clean_27 rfl ?_
      rw [hA2.1 3 (by omega)]
      refine gj_icmp_ge (pc' := 31) (tgt := 55) dX11_clean_28 (by decide) rfl (by omega) (fun c28 => ?_) (fun c28 => ?_)
      · refine gj_iload_n (pc' := 56) dX11_clean_55 rfl rfl ?_
        refine gj_iret rfl dX11_clean_56 ?_
        exact qM_g (by unfold aTown; rw [if_pos (by omega), show T 3 = b by omega])
      · refine gj_iload_n (pc' := 32) dX11_clean_31 rfl rfl ?_
        refine gj_aload_n (pc' := 33) dX11_clean_32 rfl rfl ?_
        refine gj_iload_n (pc' := 34) dX11_clean_33 rfl rfl ?_
        refine gr_X11_283 (pc' := 37) dX11_clean_34 rfl (m_against hM (by omega)) rfl (by first | rfl | assumption) (by decide) rfl (Nat.le_of_ble_eq_true rfl) ?_
        refine gj_if_ne (pc' := 40) (tgt := 46) dX11_clean_37 (by decide) rfl (by omega) (fun c37 => ?_) (fun c37 => ?_)
        · first | have g37 := of_decide_eq_true c37 | have g37 := of_decide_eq_false c37 | skip
          refine gj_iconst (pc' := 47) dX11_clean_46 rfl ?_
          refine gj_ior (pc' := 48) dX11_clean_47 rfl ?_
          first | rw [bN_orI (by omega)] | rw [bN_or0 (by omega)]
          refine gj_istore_n (pc' := 49) dX11_clean_48 rfl (by decide) ?_
          refine gj_iinc (pc' := 52) dX11_clean_49 rfl rfl (by decide) ?_
          refine gj_goto (pc' := 21) dX11_clean_52 (by decide) ?_
          refine gJ_wk (ih_b (by omega)) ?_
          repeat' (first | exact True.intro | with_reducible exact rfl | refine And.intro ?_ ?_ | refine vI ?_ | refine vL ?_)
          all_goals first | omega | (rw [bN_t (by simp; omega)]) | (rw [bN_f (by simp; omega)])
        · first | have g37 := of_decide_eq_true c37 | have g37 := of_decide_eq_false c37 | skip
          refine gj_iconst (pc' := 41) dX11_clean_40 rfl ?_
          refine gj_iload_n (pc' := 42) dX11_clean_41 rfl rfl ?_
          refine gj_ishl (pc' := 43) dX11_clean_42 rfl ?_
          rw [bt_shl1 (by omega)]
          refine gj_goto (pc' := 47) dX11_clean_43 (by decide) ?_
          refine gj_ior (pc' := 48) dX11_clean_47 rfl ?_
          first | rw [bN_orI (by omega)] | rw [bN_or0 (by omega)]
          refine gj_istore_n (pc' := 49) dX11_clean_48 rfl (by decide) ?_
          refine gj_iinc (pc' := 52) dX11_clean_49 rfl rfl (by decide) ?_
          refine gj_goto (pc' := 21) dX11_clean_52 (by decide) ?_
          refine gJ_wk (ih_b (by omega)) ?_
          repeat' (first | exact True.intro | with_reducible exact rfl | refine And.intro ?_ ?_ | refine vI ?_ | refine vL ?_)
          all_goals first | omega | (rw [bN_t (by simp; omega)]) | (rw [bN_f (by simp; omega)])
    · repeat' (first | exact True.intro | with_reducible exact rfl | refine And.intro ?_ ?_ | refine vI ?_ | refine vL ?_)
      all_goals first | rfl | omega
  · first | have g8 := of_decide_eq_true c8 | have g8 := of_decide_eq_false c8 | skip
    refine gj_aload_n (pc' := 12) dX11_clean_11 rfl rfl ?_
    refine gj_iconst (pc' := 13) dX11_clean_12 rfl ?_
    refine gc_X11_156 (pc' := 16) dX11_clean_13 rfl (m_no) rfl (by first | rfl | assumption) (by decide) rfl (Nat.le_of_ble_eq_true rfl) (fun v9 h9 q9 => ?_)
    obtain ⟨rfl, rfl⟩ := q9
    show gJ _ _ _ _ _ _ _ (.int (zI (-1)) :: _) _ _
    refine gj_iret rfl dX11_clean_16 ?_
    first | exact qM_g (by unfold aTown; (try simp only [Int.toNat_natCast]); repeat' (first | (exfalso; omega) | split | rfl | (congr 1; omega) | simp_all)) | exact qM_n (by unfold aTown; (try simp only [Int.toNat_natCast]); repeat' (first | (exfalso; omega) | split | rfl | (congr 1; omega) | simp_all))
theorem m_whereIn {h : gH} {T S : Nat → Nat} {a b : Int} (hQ : mQ h T S) (ha : inB a) (hb : inB b) : gSp 12 yX11_whereIn cX11_whereIn 4 (some .int) [.ref 142, .int (zI a), .int (zI b)] h (qM (aBiN T a b (fun n m => (sWh T S n (S 20 + m) : Int)) 60).1 (aBiN T a b (fun n m => (sWh T S n (S 20 + m) : Int)) 60).2 h) := by
  obtain ⟨hA, hH, hZ, -⟩ := id hQ
  have hH2 : (mG h).1 142 14 = bI (decide (T 3 ≠ 0)) := hH
  have ha2 := ha
  unfold inB at ha2
  have hb2 := hb
  unfold inB at hb2
  refine gSp_of (by decide +kernel) (Nat.le_of_ble_eq_true rfl) ?_
  show gJ RX11 cX11_whereIn 4 (some .int) _ 0 [some (.ref 142), some (.int (zI a)), some (.int (zI b)), none] [] _ _
  refine gj_aload_n (pc' := 1) dX11_whereIn_0 rfl rfl ?_
  refine gc_X11_153 (pc' := 4) dX11_whereIn_1 rfl (m_good) rfl (by first | rfl | assumption) (by decide) rfl (Nat.le_of_ble_eq_true rfl) (fun v9 h9 q9 => ?_)
  obtain ⟨rfl, rfl⟩ := q9
  show gJ _ _ _ _ _ _ _ [] _ _
  refine gj_aload_n (pc' := 5) dX11_whereIn_4 rfl rfl ?_
  refine gj_aload_n (pc' := 6) dX11_whereIn_5 rfl rfl ?_
  refine gj_iload_n (pc' := 7) dX11_whereIn_6 rfl rfl ?_
  refine gr_X11_286 (pc' := 10) dX11_whereIn_7 rfl (m_isBirdQ hQ.g ha) rfl (by first | rfl | assumption) (by decide) rfl (Nat.le_of_ble_eq_true rfl) ?_
  refine gj_iload_n (pc' := 11) dX11_whereIn_10 rfl rfl ?_
  refine gj_bipush (pc' := 13) dX11_whereIn_11 rfl (by decide) ?_
  refine gr_X11_298 (pc' := 16) dX11_whereIn_13 rfl (m_why hb2 (by omega)) rfl (by first | rfl | assumption) (by decide) rfl (Nat.le_of_ble_eq_true rfl) ?_
  obtain ⟨w, hw, hw2⟩ := why_cs (C := 0 ≤ a ∧ a < (T 4 : Int)) (b := b) (m := 60)
  rw [hw]
  refine gj_istore_n (pc' := 17) dX11_whereIn_16 rfl (by decide) ?_
  refine gj_iload_n (pc' := 18) dX11_whereIn_17 rfl rfl ?_
  refine gj_if_eq (pc' := 21) (tgt := 29) dX11_whereIn_18 (by decide) rfl (by omega) (fun c18 => ?_) (fun c18 => ?_)
  · first | have g18 := of_decide_eq_true c18 | have g18 := of_decide_eq_false c18 | skip
    obtain ⟨n, rfl⟩ : ∃ n : Nat, a = (n : Int) := ⟨a.toNat, by omega⟩
    obtain ⟨m, rfl⟩ : ∃ m : Nat, b = (m : Int) := ⟨b.toNat, by omega⟩
    have hM : MI (mG h) T S := hQ.mi (by omega)
    obtain ⟨hA2, hT, hS⟩ := id hM
    have h3 := hT.2.2.2.1
    have h4 : T 4 ≤ 7 := hT.2.2.2.2.1
    have hd := hS.2.2.1
    have g19 := sv19 hT hS
    refine gj_aload_n (pc' := 30) dX11_whereIn_29 rfl rfl ?_
    refine gj_iload_n (pc' := 31) dX11_whereIn_30 rfl rfl ?_
    refine gj_aload_n (pc' := 32) dX11_whereIn_31 rfl rfl ?_
    refine gf_X11_26 (pc' := 35) dX11_whereIn_32 rfl (by first | rfl | assumption) rfl ?_
    refine gj_bipush (pc' := 37) dX11_whereIn_35 rfl (by decide) ?_
    refine gj_iald (pc' := 38) (j := 20) (by first | rfl | assumption) (by omega) (by omega) (by decide) dX11_whereIn_37 rfl ?_
    rw [hA2.2 20 (by omega)]
    refine gj_iload_n (pc' := 39) dX11_whereIn_38 rfl rfl ?_
    refine gj_iadd (pc' := 40) dX11_whereIn_39 rfl ?_
    rw [show ((S 20 : Int) + (m : Int)) = ((S 20 + m : Nat) : Int) by omega]
    refine gr_X11_268 (pc' := 43) dX11_whereIn_40 rfl (m_whereOn hM (by omega) (by omega)) rfl (by first | rfl | assumption) (by decide) rfl (Nat.le_of_ble_eq_true rfl) ?_
    refine gj_iret rfl dX11_whereIn_43 ?_
    first | exact qM_g (by unfold aBiN; (try simp only [Int.toNat_natCast]); repeat' (first | (exfalso; omega) | split | rfl | (congr 1; omega) | simp_all)) | exact qM_n (by unfold aBiN; (try simp only [Int.toNat_natCast]); repeat' (first | (exfalso; omega) | split | rfl | (congr 1; omega) | simp_all))
  · first | have g18 := of_decide_eq_true c18 | have g18 := of_decide_eq_false c18 | skip
    refine gj_aload_n (pc' := 22) dX11_whereIn_21 rfl rfl ?_
    refine gj_iload_n (pc' := 23) dX11_whereIn_22 rfl rfl ?_
    refine gc_X11_156 (pc' := 26) dX11_whereIn_23 rfl (m_no) rfl (by first | rfl | assumption) (by decide) rfl (Nat.le_of_ble_eq_true rfl) (fun v9 h9 q9 => ?_)
    obtain ⟨rfl, rfl⟩ := q9
    show gJ _ _ _ _ _ _ _ (.int (zI (-1)) :: _) _ _
    refine gj_goto (pc' := 43) dX11_whereIn_26 (by decide) ?_
    refine gj_iret rfl dX11_whereIn_43 ?_
    first | exact qM_g (by unfold aBiN; (try simp only [Int.toNat_natCast]); repeat' (first | (exfalso; omega) | split | rfl | (congr 1; omega) | simp_all)) | exact qM_n (by unfold aBiN; (try simp only [Int.toNat_natCast]); repeat' (first | (exfalso; omega) | split | rfl | (congr 1; omega) | simp_all))
theorem m_sitIn {h : gH} {T S : Nat → Nat} {a b : Int} (hQ : mQ h T S) (ha : inB a) (hb : inB b) : gSp 12 yX11_sitIn cX11_sitIn 4 (some .int) [.ref 142, .int (zI a), .int (zI b)] h (qM (aHoN T a b (fun n m => (sMany T S n (S 20 + m) : Int)) 60).1 (aHoN T a b (fun n m => (sMany T S n (S 20 + m) : Int)) 60).2 h) := by
  obtain ⟨hA, hH, hZ, -⟩ := id hQ
  have hH2 : (mG h).1 142 14 = bI (decide (T 3 ≠ 0)) := hH
  have ha2 := ha
  unfold inB at ha2
  have hb2 := hb
  unfold inB at hb2
  refine gSp_of (by decide +kernel) (Nat.le_of_ble_eq_true rfl) ?_
  show gJ RX11 cX11_sitIn 4 (some .int) _ 0 [some (.ref 142), some (.int (zI a)), some (.int (zI b)), none] [] _ _
  refine gj_aload_n (pc' := 1) dX11_sitIn_0 rfl rfl ?_
  refine gc_X11_153 (pc' := 4) dX11_sitIn_1 rfl (m_good) rfl (by first | rfl | assumption) (by decide) rfl (Nat.le_of_ble_eq_true rfl) (fun v9 h9 q9 => ?_)
  obtain ⟨rfl, rfl⟩ := q9
  show gJ _ _ _ _ _ _ _ [] _ _
  refine gj_aload_n (pc' := 5) dX11_sitIn_4 rfl rfl ?_
  refine gj_aload_n (pc' := 6) dX11_sitIn_5 rfl rfl ?_
  refine gj_iload_n (pc' := 7) dX11_sitIn_6 rfl rfl ?_
  refine gr_X11_277 (pc' := 10) dX11_sitIn_7 rfl (m_isHouseQ hQ.g ha) rfl (by first | rfl | assumption) (by decide) rfl (Nat.le_of_ble_eq_true rfl) ?_
  refine gj_iload_n (pc' := 11) dX11_sitIn_10 rfl rfl ?_
  refine gj_bipush (pc' := 13) dX11_sitIn_11 rfl (by decide) ?_
  refine gr_X11_298 (pc' := 16) dX11_sitIn_13 rfl (m_why hb2 (by omega)) rfl (by first | rfl | assumption) (by decide) rfl (Nat.le_of_ble_eq_true rfl) ?_
  obtain ⟨w, hw, hw2⟩ := why_cs (C := 0 ≤ a ∧ a < (T 3 : Int)) (b := b) (m := 60)
  rw [hw]
  refine gj_istore_n (pc' := 17) dX11_sitIn_16 rfl (by decide) ?_
  refine gj_iload_n (pc' := 18) dX11_sitIn_17 rfl rfl ?_
  refine gj_if_eq (pc' := 21) (tgt := 29) dX11_sitIn_18 (by decide) rfl (by omega) (fun c18 => ?_) (fun c18 => ?_)
  · first | have g18 := of_decide_eq_true c18 | have g18 := of_decide_eq_false c18 | skip
    obtain ⟨n, rfl⟩ : ∃ n : Nat, a = (n : Int) := ⟨a.toNat, by omega⟩
    obtain ⟨m, rfl⟩ : ∃ m : Nat, b = (m : Int) := ⟨b.toNat, by omega⟩
    have hM : MI (mG h) T S := hQ.mi (by omega)
    obtain ⟨hA2, hT, hS⟩ := id hM
    have h3 := hT.2.2.2.1
    have h4 : T 4 ≤ 7 := hT.2.2.2.2.1
    have hd := hS.2.2.1
    have g19 := sv19 hT hS
    refine gj_aload_n (pc' := 30) dX11_sitIn_29 rfl rfl ?_
    refine gj_iload_n (pc' := 31) dX11_sitIn_30 rfl rfl ?_
    refine gj_aload_n (pc' := 32) dX11_sitIn_31 rfl rfl ?_
    refine gf_X11_26 (pc' := 35) dX11_sitIn_32 rfl (by first | rfl | assumption) rfl ?_
    refine gj_bipush (pc' := 37) dX11_sitIn_35 rfl (by decide) ?_
    refine gj_iald (pc' := 38) (j := 20) (by first | rfl | assumption) (by omega) (by omega) (by decide) dX11_sitIn_37 rfl ?_
    rw [hA2.2 20 (by omega)]
    refine gj_iload_n (pc' := 39) dX11_sitIn_38 rfl rfl ?_
    refine gj_iadd (pc' := 40) dX11_sitIn_39 rfl ?_
    rw [show ((S 20 : Int) + (m : Int)) = ((S 20 + m : Nat) : Int) by omega]
    refine gr_X11_280 (pc' := 43) dX11_sitIn_40 rfl (m_sitting hM (by omega) (by omega)) rfl (by first | rfl | assumption) (by decide) rfl (Nat.le_of_ble_eq_true rfl) ?_
    refine gr_X11_295 (pc' := 46) dX11_sitIn_43 rfl (m_ones (by have : sSet T S n (S 20 + m) < 256 := pc_lt h4; omega)) rfl (by decide) rfl (Nat.le_of_ble_eq_true rfl) ?_
    refine gj_iret rfl dX11_sitIn_46 ?_
    first | exact qM_g (by unfold aHoN; (try simp only [Int.toNat_natCast]); repeat' (first | (exfalso; omega) | split | rfl | (congr 1; omega) | simp_all)) | exact qM_n (by unfold aHoN; (try simp only [Int.toNat_natCast]); repeat' (first | (exfalso; omega) | split | rfl | (congr 1; omega) | simp_all))
  · first | have g18 := of_decide_eq_true c18 | have g18 := of_decide_eq_false c18 | skip
    refine gj_aload_n (pc' := 22) dX11_sitIn_21 rfl rfl ?_
    refine gj_iload_n (pc' := 23) dX11_sitIn_22 rfl rfl ?_
    refine gc_X11_156 (pc' := 26) dX11_sitIn_23 rfl (m_no) rfl (by first | rfl | assumption) (by decide) rfl (Nat.le_of_ble_eq_true rfl) (fun v9 h9 q9 => ?_)
    obtain ⟨rfl, rfl⟩ := q9
    show gJ _ _ _ _ _ _ _ (.int (zI (-1)) :: _) _ _
    refine gj_goto (pc' := 46) dX11_sitIn_26 (by decide) ?_
    refine gj_iret rfl dX11_sitIn_46 ?_
    first | exact qM_g (by unfold aHoN; (try simp only [Int.toNat_natCast]); repeat' (first | (exfalso; omega) | split | rfl | (congr 1; omega) | simp_all)) | exact qM_n (by unfold aHoN; (try simp only [Int.toNat_natCast]); repeat' (first | (exfalso; omega) | split | rfl | (congr 1; omega) | simp_all))
theorem m_whiteIn {h : gH} {T S : Nat → Nat} {a b : Int} (hQ : mQ h T S) (ha : inB a) (hb : inB b) : gSp 12 yX11_whiteIn cX11_whiteIn 4 (some .int) [.ref 142, .int (zI a), .int (zI b)] h (qM (aHoN T a b (fun n m => (sWi T S n m : Int)) 60).1 (aHoN T a b (fun n m => (sWi T S n m : Int)) 60).2 h) := by
  obtain ⟨hA, hH, hZ, -⟩ := id hQ
  have hH2 : (mG h).1 142 14 = bI (decide (T 3 ≠ 0)) := hH
  have ha2 := ha
  unfold inB at ha2
  have hb2 := hb
  unfold inB at hb2
  refine gSp_of (by decide +kernel) (Nat.le_of_ble_eq_true rfl) ?_
  show gJ RX11 cX11_whiteIn 4 (some .int) _ 0 [some (.ref 142), some (.int (zI a)), some (.int (zI b)), none] [] _ _
  refine gj_aload_n (pc' := 1) dX11_whiteIn_0 rfl rfl ?_
  refine gc_X11_153 (pc' := 4) dX11_whiteIn_1 rfl (m_good) rfl (by first | rfl | assumption) (by decide) rfl (Nat.le_of_ble_eq_true rfl) (fun v9 h9 q9 => ?_)
  obtain ⟨rfl, rfl⟩ := q9
  show gJ _ _ _ _ _ _ _ [] _ _
  refine gj_aload_n (pc' := 5) dX11_whiteIn_4 rfl rfl ?_
  refine gj_aload_n (pc' := 6) dX11_whiteIn_5 rfl rfl ?_
  refine gj_iload_n (pc' := 7) dX11_whiteIn_6 rfl rfl ?_
  refine gr_X11_277 (pc' := 10) dX11_whiteIn_7 rfl (m_isHouseQ hQ.g ha) rfl (by first | rfl | assumption) (by decide) rfl (Nat.le_of_ble_eq_true rfl) ?_
  refine gj_iload_n (pc' := 11) dX11_whiteIn_10 rfl rfl ?_
  refine gj_bipush (pc' := 13) dX11_whiteIn_11 rfl (by decide) ?_
  refine gr_X11_298 (pc' := 16) dX11_whiteIn_13 rfl (m_why hb2 (by omega)) rfl (by first | rfl | assumption) (by decide) rfl (Nat.le_of_ble_eq_true rfl) ?_
  obtain ⟨w, hw, hw2⟩ := why_cs (C := 0 ≤ a ∧ a < (T 3 : Int)) (b := b) (m := 60)
  rw [hw]
  refine gj_istore_n (pc' := 17) dX11_whiteIn_16 rfl (by decide) ?_
  refine gj_iload_n (pc' := 18) dX11_whiteIn_17 rfl rfl ?_
  refine gj_if_eq (pc' := 21) (tgt := 29) dX11_whiteIn_18 (by decide) rfl (by omega) (fun c18 => ?_) (fun c18 => ?_)
  · first | have g18 := of_decide_eq_true c18 | have g18 := of_decide_eq_false c18 | skip
    obtain ⟨n, rfl⟩ : ∃ n : Nat, a = (n : Int) := ⟨a.toNat, by omega⟩
    obtain ⟨m, rfl⟩ : ∃ m : Nat, b = (m : Int) := ⟨b.toNat, by omega⟩
    have hM : MI (mG h) T S := hQ.mi (by omega)
    obtain ⟨hA2, hT, hS⟩ := id hM
    have h3 := hT.2.2.2.1
    have h4 : T 4 ≤ 7 := hT.2.2.2.2.1
    have hd := hS.2.2.1
    have g19 := sv19 hT hS
    refine gj_aload_n (pc' := 30) dX11_whiteIn_29 rfl rfl ?_
    refine gj_iload_n (pc' := 31) dX11_whiteIn_30 rfl rfl ?_
    refine gj_iload_n (pc' := 32) dX11_whiteIn_31 rfl rfl ?_
    refine gr_X11_302 (pc' := 35) dX11_whiteIn_32 rfl (m_whiteOf hM (by omega) (by omega)) rfl (by first | rfl | assumption) (by decide) rfl (Nat.le_of_ble_eq_true rfl) ?_
    refine gj_iret rfl dX11_whiteIn_35 ?_
    first | exact qM_g (by unfold aHoN; (try simp only [Int.toNat_natCast]); repeat' (first | (exfalso; omega) | split | rfl | (congr 1; omega) | simp_all)) | exact qM_n (by unfold aHoN; (try simp only [Int.toNat_natCast]); repeat' (first | (exfalso; omega) | split | rfl | (congr 1; omega) | simp_all))
  · first | have g18 := of_decide_eq_true c18 | have g18 := of_decide_eq_false c18 | skip
    refine gj_aload_n (pc' := 22) dX11_whiteIn_21 rfl rfl ?_
    refine gj_iload_n (pc' := 23) dX11_whiteIn_22 rfl rfl ?_
    refine gc_X11_156 (pc' := 26) dX11_whiteIn_23 rfl (m_no) rfl (by first | rfl | assumption) (by decide) rfl (Nat.le_of_ble_eq_true rfl) (fun v9 h9 q9 => ?_)
    obtain ⟨rfl, rfl⟩ := q9
    show gJ _ _ _ _ _ _ _ (.int (zI (-1)) :: _) _ _
    refine gj_goto (pc' := 35) dX11_whiteIn_26 (by decide) ?_
    refine gj_iret rfl dX11_whiteIn_35 ?_
    first | exact qM_g (by unfold aHoN; (try simp only [Int.toNat_natCast]); repeat' (first | (exfalso; omega) | split | rfl | (congr 1; omega) | simp_all)) | exact qM_n (by unfold aHoN; (try simp only [Int.toNat_natCast]); repeat' (first | (exfalso; omega) | split | rfl | (congr 1; omega) | simp_all))
theorem m_sitsIn {h : gH} {T S : Nat → Nat} {a : Int} (hQ : mQ h T S) (ha : inB a) : gSp 12 yX11_sitsIn cX11_sitsIn 3 (some .int) [.ref 142, .int (zI a)] h (qM (aBi T a (fun n => sTill T S n)).1 (aBi T a (fun n => sTill T S n)).2 h) := by
  obtain ⟨hA, hH, hZ, -⟩ := id hQ
  have hH2 : (mG h).1 142 14 = bI (decide (T 3 ≠ 0)) := hH
  have ha2 := ha
  unfold inB at ha2
  refine gSp_of (by decide +kernel) (Nat.le_of_ble_eq_true rfl) ?_
  show gJ RX11 cX11_sitsIn 3 (some .int) _ 0 [some (.ref 142), some (.int (zI a)), none] [] _ _
  refine gj_aload_n (pc' := 1) dX11_sitsIn_0 rfl rfl ?_
  refine gc_X11_153 (pc' := 4) dX11_sitsIn_1 rfl (m_good) rfl (by first | rfl | assumption) (by decide) rfl (Nat.le_of_ble_eq_true rfl) (fun v9 h9 q9 => ?_)
  obtain ⟨rfl, rfl⟩ := q9
  show gJ _ _ _ _ _ _ _ [] _ _
  refine gj_aload_n (pc' := 5) dX11_sitsIn_4 rfl rfl ?_
  refine gj_iload_n (pc' := 6) dX11_sitsIn_5 rfl rfl ?_
  refine gr_X11_286 (pc' := 9) dX11_sitsIn_6 rfl (m_isBirdQ hQ.g ha) rfl (by first | rfl | assumption) (by decide) rfl (Nat.le_of_ble_eq_true rfl) ?_
  first | refine gj_ifB_ne (pc' := 12) (tgt := 18) dX11_sitsIn_9 (by decide) rfl (fun c9 => ?_) (fun c9 => ?_) | refine gj_if_ne (pc' := 12) (tgt := 18) dX11_sitsIn_9 (by decide) rfl (by omega) (fun c9 => ?_) (fun c9 => ?_)
  · first | have g9 := of_decide_eq_true c9 | have g9 := of_decide_eq_false c9 | skip
    obtain ⟨n, rfl⟩ : ∃ n : Nat, a = (n : Int) := ⟨a.toNat, by omega⟩
    have hM : MI (mG h) T S := hQ.mi (by omega)
    obtain ⟨hA2, hT, hS⟩ := id hM
    have h3 := hT.2.2.2.1
    have h4 : T 4 ≤ 7 := hT.2.2.2.2.1
    have hd := hS.2.2.1
    have g19 := sv19 hT hS
    refine gj_iconst (pc' := 19) dX11_sitsIn_18 rfl ?_
    refine gj_istore_n (pc' := 20) dX11_sitsIn_19 rfl (by decide) ?_
    refine gJ_wk (gJ_fI1 (L := fun k x => [some (.ref 142), some (.int (zI (n : Int))), some (.int (zI x))]) (I := fun k x => x = (k : Int) ∧ fstN (fun n2 => sWh T S n (S 20 + n2) == 2) k = -2) (61) (fun k x hb_k iv_k ih_k => ?step_1) (0) (Nat.zero_le _) ?x0_1 ?iv0_1) ?ll0_1
    case ll0_1 =>
      repeat' (first | exact True.intro | with_reducible exact rfl | refine And.intro ?_ ?_ | refine vI ?_ | refine vL ?_)
      all_goals first | rfl | omega
    case iv0_1 =>
      exact ⟨rfl, rfl⟩
    obtain ⟨rfl, hk⟩ := iv_k
    have es := fstN_s (fun n2 => sWh T S n (S 20 + n2) == 2) k
    have hl : sWh T S n (S 20 + k) ≤ 3 := by unfold sWh; repeat' (first | omega | split)
    have ef : sWh T S n (S 20 + k) = 2 → k < 61 → sTill T S n = (k : Int) := fun q q2 => fstN_at (p := fun n2 => sWh T S n (S 20 + n2) == 2) (v := k) (by simpa using q) (fun j hj => by
      cases hp : (sWh T S n (S 20 + j) == 2) with
      | false => rfl
      | true =>
        exfalso
        have : ∀ N, j < N → fstN (fun n2 => sWh T S n (S 20 + n2) == 2) N ≠ -2 := fun N hN => fstN_ne (p := fun n2 => sWh T S n (S 20 + n2) == 2) (j := j) hp N hN
        exact this k hj hk) q2
    refine gj_iload_n (pc' := 21) dX11_sitsIn_20 rfl rfl ?_
    refine gj_bipush (pc' := 23) dX11_sitsIn_21 rfl (by decide) ?_
    refine gj_icmp_gt (pc' := 26) (tgt := 52) dX11_sitsIn_23 (by decide) rfl (by omega) (fun c23 => ?_) (fun c23 => ?_)
    · refine gj_bipush (pc' := 54) dX11_sitsIn_52 rfl (by decide) ?_
      refine gj_iret rfl dX11_sitsIn_54 ?_
      exact qM_g (by unfold aBi; rw [if_pos (by omega)]; show (sTill T S n, (0 : Int)) = _; rw [show sTill T S n = fstN (fun n2 => sWh T S n (S 20 + n2) == 2) 61 from rfl, show 61 = k by omega, hk])
    · refine gj_aload_n (pc' := 27) dX11_sitsIn_26 rfl rfl ?_
      refine gj_iload_n (pc' := 28) dX11_sitsIn_27 rfl rfl ?_
      refine gj_aload_n (pc' := 29) dX11_sitsIn_28 rfl rfl ?_
      refine gf_X11_26 (pc' := 32) dX11_sitsIn_29 rfl (by first | rfl | assumption) rfl ?_
      refine gj_bipush (pc' := 34) dX11_sitsIn_32 rfl (by decide) ?_
      refine gj_iald (pc' := 35) (j := 20) (by first | rfl | assumption) (by omega) (by omega) (by decide) dX11_sitsIn_34 rfl ?_
      rw [hA2.2 20 (by omega)]
      refine gj_iload_n (pc' := 36) dX11_sitsIn_35 rfl rfl ?_
      refine gj_iadd (pc' := 37) dX11_sitsIn_36 rfl ?_
      rw [show ((S 20 : Int) + (k : Int)) = ((S 20 + k : Nat) : Int) by omega]
      refine gr_X11_268 (pc' := 40) dX11_sitsIn_37 rfl (m_whereOn hM (by omega) (by omega)) rfl (by first | rfl | assumption) (by decide) rfl (Nat.le_of_ble_eq_true rfl) ?_
      refine gj_iconst (pc' := 41) dX11_sitsIn_40 rfl ?_
      refine gj_icmp_ne (pc' := 44) (tgt := 46) dX11_sitsIn_41 (by decide) rfl (by omega) (fun c41 => ?_) (fun c41 => ?_)
      · refine gj_iinc (pc' := 49) dX11_sitsIn_46 rfl rfl (by decide) ?_
        refine gj_goto (pc' := 20) dX11_sitsIn_49 (by decide) ?_
        refine gJ_wk (ih_k ?x_2 (by omega) ?iv_2) ?ll_2
        case ll_2 =>
          repeat' (first | exact True.intro | with_reducible exact rfl | refine And.intro ?_ ?_ | refine vI ?_ | refine vL ?_)
          all_goals omega
        refine ⟨by omega, ?_⟩
        rw [es, if_neg (by simp; intro _; omega)]
        exact hk
      · refine gj_iload_n (pc' := 45) dX11_sitsIn_44 rfl rfl ?_
        refine gj_iret rfl dX11_sitsIn_45 ?_
        exact qM_g (by unfold aBi; rw [if_pos (by omega)]; show (sTill T S n, (0 : Int)) = _; rw [ef (by omega) (by omega)])
  · first | have g9 := of_decide_eq_true c9 | have g9 := of_decide_eq_false c9 | skip
    refine gj_aload_n (pc' := 13) dX11_sitsIn_12 rfl rfl ?_
    refine gj_iconst (pc' := 14) dX11_sitsIn_13 rfl ?_
    refine gc_X11_156 (pc' := 17) dX11_sitsIn_14 rfl (m_no) rfl (by first | rfl | assumption) (by decide) rfl (Nat.le_of_ble_eq_true rfl) (fun v9 h9 q9 => ?_)
    obtain ⟨rfl, rfl⟩ := q9
    show gJ _ _ _ _ _ _ _ (.int (zI (-1)) :: _) _ _
    refine gj_iret rfl dX11_sitsIn_17 ?_
    first | exact qM_g (by unfold aBi; (try simp only [Int.toNat_natCast]); repeat' (first | (exfalso; omega) | split | rfl | (congr 1; omega) | simp_all)) | exact qM_n (by unfold aBi; (try simp only [Int.toNat_natCast]); repeat' (first | (exfalso; omega) | split | rfl | (congr 1; omega) | simp_all))
theorem m_worstDay {h : gH} {T S : Nat → Nat} (hQ : mQ h T S) : gSp 12 yX11_worstDay cX11_worstDay 6 (some .int) [.ref 142] h (qM (aTown T ((wOut T S 61).1 : Nat)).1 (aTown T ((wOut T S 61).1 : Nat)).2 h) := by
  obtain ⟨hA, hH, hZ, -⟩ := id hQ
  have hH2 : (mG h).1 142 14 = bI (decide (T 3 ≠ 0)) := hH
  refine gSp_of (by decide +kernel) (Nat.le_of_ble_eq_true rfl) ?_
  show gJ RX11 cX11_worstDay 6 (some .int) _ 0 [some (.ref 142), none, none, none, none, none] [] _ _
  refine gj_aload_n (pc' := 1) dX11_worstDay_0 rfl rfl ?_
  refine gc_X11_153 (pc' := 4) dX11_worstDay_1 rfl (m_good) rfl (by first | rfl | assumption) (by decide) rfl (Nat.le_of_ble_eq_true rfl) (fun v9 h9 q9 => ?_)
  obtain ⟨rfl, rfl⟩ := q9
  show gJ _ _ _ _ _ _ _ [] _ _
  refine gj_aload_n (pc' := 5) dX11_worstDay_4 rfl rfl ?_
  refine gf_X11_166 (pc' := 8) dX11_worstDay_5 rfl (by first | rfl | assumption) rfl ?_
  rw [hH2]
  first | refine gj_ifB_ne (pc' := 11) (tgt := 17) dX11_worstDay_8 (by decide) rfl (fun c8 => ?_) (fun c8 => ?_) | refine gj_if_ne (pc' := 11) (tgt := 17) dX11_worstDay_8 (by decide) rfl (by omega) (fun c8 => ?_) (fun c8 => ?_)
  · first | have g8 := of_decide_eq_true c8 | have g8 := of_decide_eq_false c8 | skip
    have hM : MI (mG h) T S := hQ.mi (by omega)
    obtain ⟨hA2, hT, hS⟩ := id hM
    have h3 := hT.2.2.2.1
    have h4 : T 4 ≤ 7 := hT.2.2.2.2.1
    have hd := hS.2.2.1
    have g19 := sv19 hT hS
    refine gj_iconst (pc' := 18) dX11_worstDay_17 rfl ?_
    refine gj_istore_n (pc' := 19) dX11_worstDay_18 rfl (by decide) ?_
    refine gj_iconst (pc' := 20) dX11_worstDay_19 rfl ?_
    refine gj_istore_n (pc' := 21) dX11_worstDay_20 rfl (by decide) ?_
    refine gj_iconst (pc' := 22) dX11_worstDay_21 rfl ?_
    refine gj_istore_n (pc' := 23) dX11_worstDay_22 rfl (by decide) ?_
    refine gJ_wk (gJ_fI2 (L := fun n x y => [some (.ref 142), some (.int (zI x)), some (.int (zI y)), some (.int (zI (n : Int))), none, none]) (I := fun n x y => x = ((wOut T S n).1 : Int) ∧ ((n = 0 ∧ y = -1) ∨ (0 < n ∧ y = ((wOut T S n).2 : Int)))) (61) (fun n x y hb_n iv_n ih_n => ?step_1) (0) (Nat.zero_le _) ?x0_1 ?y0_1 ?iv0_1) ?ll0_1
    case ll0_1 =>
      repeat' (first | exact True.intro | with_reducible exact rfl | refine And.intro ?_ ?_ | refine vI ?_ | refine vL ?_)
      all_goals first | rfl | omega
    case iv0_1 =>
      exact ⟨rfl, Or.inl ⟨rfl, rfl⟩⟩
    have hx := wOut_le T S n
    have w0 : n = 0 → (wOut T S n).1 = 0 ∧ (wOut T S n).2 = 0 := fun q => by subst q; exact ⟨rfl, rfl⟩
    refine gj_iload_n (pc' := 24) dX11_worstDay_23 rfl rfl ?_
    refine gj_bipush (pc' := 26) dX11_worstDay_24 rfl (by decide) ?_
    refine gj_icmp_gt (pc' := 29) (tgt := 89) dX11_worstDay_26 (by decide) rfl (by omega) (fun c26 => ?_) (fun c26 => ?_)
    · refine gj_iload_n (pc' := 90) dX11_worstDay_89 rfl rfl ?_
      refine gj_iret rfl dX11_worstDay_90 ?_
      exact qM_g (by unfold aTown; rw [if_pos (by omega), show 61 = n by omega]; rw [iv_n.1])
    · refine gj_iconst (pc' := 30) dX11_worstDay_29 rfl ?_
      refine gj_istore (pc' := 32) dX11_worstDay_30 rfl (by decide) ?_
      refine gJ_wk (gJ_fI2 (L := fun k x2 y2 => [some (.ref 142), some (.int (zI x2)), some (.int (zI y2)), some (.int (zI (n : Int))), some (.int (zI (k : Int))), none]) (I := fun k x2 y2 => x2 = ((wIn T S n (wOut T S n) k).1 : Int) ∧ ((n = 0 ∧ k = 0 ∧ y2 = -1) ∨ (0 < n + k ∧ y2 = ((wIn T S n (wOut T S n) k).2 : Int)))) (T 3) (fun k x2 y2 hb_k iv_k ih_k => ?step_2) (0) (Nat.zero_le _) ?x20_2 ?y20_2 ?iv0_2) ?ll0_2
      case ll0_2 =>
        repeat' (first | exact True.intro | with_reducible exact rfl | refine And.intro ?_ ?_ | refine vI ?_ | refine vL ?_)
        all_goals first | rfl | omega
      case iv0_2 =>
        refine ⟨iv_n.1, ?_⟩
        rcases iv_n.2 with q | q
        · exact Or.inl ⟨q.1, rfl, q.2⟩
        · exact Or.inr ⟨by omega, q.2⟩
      have es := wIn_s T S n (wOut T S n) k
      have l1 : sMany T S k (S 20 + n) ≤ 8 := pcN_le _
      have l2 := wIn_le (T := T) (S := S) (n := n) (p := wOut T S n) hx k
      have l3 : sSet T S k (S 20 + n) < 256 := pc_lt h4
      have w1 : k = 0 → wIn T S n (wOut T S n) k = wOut T S n := fun q => by subst q; rfl
      have w2 : n = 0 → k = 0 → (wIn T S n (wOut T S n) k).1 = 0 ∧ (wIn T S n (wOut T S n) k).2 = 0 := fun q q2 => by rw [w1 q2]; exact w0 q
      refine gj_iload (pc' := 34) dX11_worstDay_32 rfl rfl ?_
      refine gj_aload_n (pc' := 35) dX11_worstDay_34 rfl rfl ?_
      refine gf_X11_20 (pc' := 38) dX11_worstDay_35 rfl (by first | rfl | assumption) rfl ?_
      refine gj_iconst (pc' := 39) dX11_worstDay_38 rfl ?_
      refine gj_iald (pc' := 40) (j := 3) (by first | rfl | assumption) (by omega) (by omega) (by decide) dX11_worstDay_39 rfl ?_
      rw [hA2.1 3 (by omega)]
      refine gj_icmp_ge (pc' := 43) (tgt := 83) dX11_worstDay_40 (by decide) rfl (by omega) (fun c40 => ?_) (fun c40 => ?_)
      · refine gj_iinc (pc' := 86) dX11_worstDay_83 rfl rfl (by decide) ?_
        refine gj_goto (pc' := 23) dX11_worstDay_86 (by decide) ?_
        refine gJ_wk (ih_n ?x_3 ?y_3 (by omega) ?iv_3) ?ll_3
        case ll_3 =>
          repeat' (first | exact True.intro | with_reducible exact rfl | refine And.intro ?_ ?_ | refine vI ?_ | refine vL ?_)
          all_goals omega
        rw [wOut_s, show T 3 = k by omega]
        obtain ⟨i1, i2⟩ := iv_k
        exact ⟨i1, Or.inr ⟨by omega, by omega⟩⟩
      · refine gj_aload_n (pc' := 44) dX11_worstDay_43 rfl rfl ?_
        refine gj_iload (pc' := 46) dX11_worstDay_44 rfl rfl ?_
        refine gj_aload_n (pc' := 47) dX11_worstDay_46 rfl rfl ?_
        refine gf_X11_26 (pc' := 50) dX11_worstDay_47 rfl (by first | rfl | assumption) rfl ?_
        refine gj_bipush (pc' := 52) dX11_worstDay_50 rfl (by decide) ?_
        refine gj_iald (pc' := 53) (j := 20) (by first | rfl | assumption) (by omega) (by omega) (by decide) dX11_worstDay_52 rfl ?_
        rw [hA2.2 20 (by omega)]
        refine gj_iload_n (pc' := 54) dX11_worstDay_53 rfl rfl ?_
        refine gj_iadd (pc' := 55) dX11_worstDay_54 rfl ?_
        rw [show ((S 20 : Int) + (n : Int)) = ((S 20 + n : Nat) : Int) by omega]
        refine gr_X11_280 (pc' := 58) dX11_worstDay_55 rfl (m_sitting hM (by omega) (by omega)) rfl (by first | rfl | assumption) (by decide) rfl (Nat.le_of_ble_eq_true rfl) ?_
        refine gr_X11_295 (pc' := 61) dX11_worstDay_58 rfl (m_ones (by omega)) rfl (by decide) rfl (Nat.le_of_ble_eq_true rfl) ?_
        change gJ _ _ _ _ _ _ _ (.int (zI ((sMany T S k (S 20 + n) : Nat) : Int)) :: _) _ _
        refine gj_istore (pc' := 63) dX11_worstDay_61 rfl (by decide) ?_
        refine gj_iload (pc' := 65) dX11_worstDay_63 rfl rfl ?_
        refine gj_iload_n (pc' := 66) dX11_worstDay_65 rfl rfl ?_
        refine gj_icmp_gt (pc' := 69) (tgt := 72) dX11_worstDay_66 (by decide) rfl (by omega) (fun c66 => ?_) (fun c66 => ?_)
        · refine gj_iload_n (pc' := 73) dX11_worstDay_72 rfl rfl ?_
          refine gj_istore_n (pc' := 74) dX11_worstDay_73 rfl (by decide) ?_
          refine gj_iload (pc' := 76) dX11_worstDay_74 rfl rfl ?_
          refine gj_istore_n (pc' := 77) dX11_worstDay_76 rfl (by decide) ?_
          refine gj_iinc (pc' := 80) dX11_worstDay_77 rfl rfl (by decide) ?_
          refine gj_goto (pc' := 32) dX11_worstDay_80 (by decide) ?_
          refine gJ_wk (ih_k ?x2_4 ?y2_4 (by omega) ?iv_4) ?ll_4
          case ll_4 =>
            repeat' (first | exact True.intro | with_reducible exact rfl | refine And.intro ?_ ?_ | refine vI ?_ | refine vL ?_)
            all_goals omega
          obtain ⟨i1, i2⟩ := iv_k
          rw [es]
          by_cases qq : (wIn T S n (wOut T S n) k).2 < sMany T S k (S 20 + n)
          · rw [if_pos qq]
            exact ⟨by first | rfl | omega, Or.inr ⟨by omega, by first | rfl | omega⟩⟩
          · rw [if_neg qq]
            exact ⟨by have := w2; omega, Or.inr ⟨by omega, by have := w2; omega⟩⟩
        · refine gj_goto (pc' := 77) dX11_worstDay_69 (by decide) ?_
          refine gj_iinc (pc' := 80) dX11_worstDay_77 rfl rfl (by decide) ?_
          refine gj_goto (pc' := 32) dX11_worstDay_80 (by decide) ?_
          refine gJ_wk (ih_k ?x2_5 ?y2_5 (by omega) ?iv_5) ?ll_5
          case ll_5 =>
            repeat' (first | exact True.intro | with_reducible exact rfl | refine And.intro ?_ ?_ | refine vI ?_ | refine vL ?_)
            all_goals omega
          obtain ⟨i1, i2⟩ := iv_k
          rw [es]
          by_cases qq : (wIn T S n (wOut T S n) k).2 < sMany T S k (S 20 + n)
          · rw [if_pos qq]
            exact ⟨by first | rfl | omega, Or.inr ⟨by omega, by first | rfl | omega⟩⟩
          · rw [if_neg qq]
            exact ⟨by have := w2; omega, Or.inr ⟨by omega, by have := w2; omega⟩⟩
  · first | have g8 := of_decide_eq_true c8 | have g8 := of_decide_eq_false c8 | skip
    refine gj_aload_n (pc' := 12) dX11_worstDay_11 rfl rfl ?_
    refine gj_iconst (pc' := 13) dX11_worstDay_12 rfl ?_
    refine gc_X11_156 (pc' := 16) dX11_worstDay_13 rfl (m_no) rfl (by first | rfl | assumption) (by decide) rfl (Nat.le_of_ble_eq_true rfl) (fun v9 h9 q9 => ?_)
    obtain ⟨rfl, rfl⟩ := q9
    show gJ _ _ _ _ _ _ _ (.int (zI (-1)) :: _) _ _
    refine gj_iret rfl dX11_worstDay_16 ?_
    first | exact qM_g (by unfold aTown; (try simp only [Int.toNat_natCast]); repeat' (first | (exfalso; omega) | split | rfl | (congr 1; omega) | simp_all)) | exact qM_n (by unfold aTown; (try simp only [Int.toNat_natCast]); repeat' (first | (exfalso; omega) | split | rfl | (congr 1; omega) | simp_all))
theorem m_whitest {h : gH} {T S : Nat → Nat} {b : Int} (hQ : mQ h T S) (hb : inB b) : gSp 12 yX11_whitest cX11_whitest 5 (some .int) [.ref 142, .int (zI b)] h (qM (aToN T b (fun m => (aMax (fun k => sWi T S k m) (T 3) : Nat)) 60).1 (aToN T b (fun m => (aMax (fun k => sWi T S k m) (T 3) : Nat)) 60).2 h) := by
  obtain ⟨hA, hH, hZ, -⟩ := id hQ
  have hH2 : (mG h).1 142 14 = bI (decide (T 3 ≠ 0)) := hH
  have hb2 := hb
  unfold inB at hb2
  refine gSp_of (by decide +kernel) (Nat.le_of_ble_eq_true rfl) ?_
  show gJ RX11 cX11_whitest 5 (some .int) _ 0 [some (.ref 142), some (.int (zI b)), none, none, none] [] _ _
  refine gj_aload_n (pc' := 1) dX11_whitest_0 rfl rfl ?_
  refine gc_X11_153 (pc' := 4) dX11_whitest_1 rfl (m_good) rfl (by first | rfl | assumption) (by decide) rfl (Nat.le_of_ble_eq_true rfl) (fun v9 h9 q9 => ?_)
  obtain ⟨rfl, rfl⟩ := q9
  show gJ _ _ _ _ _ _ _ [] _ _
  refine gj_aload_n (pc' := 5) dX11_whitest_4 rfl rfl ?_
  refine gj_aload_n (pc' := 6) dX11_whitest_5 rfl rfl ?_
  refine gf_X11_166 (pc' := 9) dX11_whitest_6 rfl (by first | rfl | assumption) rfl ?_
  rw [hH2]
  refine gj_iload_n (pc' := 10) dX11_whitest_9 rfl rfl ?_
  refine gj_bipush (pc' := 12) dX11_whitest_10 rfl (by decide) ?_
  refine gr_X11_298 (pc' := 15) dX11_whitest_12 rfl (m_why hb2 (by omega)) rfl (by first | rfl | assumption) (by decide) rfl (Nat.le_of_ble_eq_true rfl) ?_
  obtain ⟨w, hw, hw2⟩ := why_cs (C := T 3 ≠ 0) (b := b) (m := 60)
  rw [hw]
  refine gj_istore_n (pc' := 16) dX11_whitest_15 rfl (by decide) ?_
  refine gj_iload_n (pc' := 17) dX11_whitest_16 rfl rfl ?_
  refine gj_if_eq (pc' := 20) (tgt := 26) dX11_whitest_17 (by decide) rfl (by omega) (fun c17 => ?_) (fun c17 => ?_)
  · first | have g17 := of_decide_eq_true c17 | have g17 := of_decide_eq_false c17 | skip
    obtain ⟨m, rfl⟩ : ∃ m : Nat, b = (m : Int) := ⟨b.toNat, by omega⟩
    have hM : MI (mG h) T S := hQ.mi (by omega)
    obtain ⟨hA2, hT, hS⟩ := id hM
    have h3 := hT.2.2.2.1
    have h4 : T 4 ≤ 7 := hT.2.2.2.2.1
    have hd := hS.2.2.1
    have g19 := sv19 hT hS
    refine gj_iconst (pc' := 27) dX11_whitest_26 rfl ?_
    refine gj_istore_n (pc' := 28) dX11_whitest_27 rfl (by decide) ?_
    refine gj_iconst (pc' := 29) dX11_whitest_28 rfl ?_
    refine gj_istore (pc' := 31) dX11_whitest_29 rfl (by decide) ?_
    refine gJ_wk (gJ_fI1 (L := fun k x => [some (.ref 142), some (.int (zI (m : Int))), none, some (.int (zI x)), some (.int (zI (k : Int)))]) (I := fun k x => x = ((aMax (fun k => sWi T S k m) k : Nat) : Int) ∧ 1 ≤ k) (T 3) (fun k x hb_k iv_k ih_k => ?step_1) (1) (by omega) ?x0_1 ?iv0_1) ?ll0_1
    case ll0_1 =>
      repeat' (first | exact True.intro | with_reducible exact rfl | refine And.intro ?_ ?_ | refine vI ?_ | refine vL ?_)
      all_goals first | rfl | omega
    case iv0_1 =>
      exact ⟨by rw [aMax_1]; rfl, Nat.le_refl _⟩
    have es := aMax_s (fun k => sWi T S k m) k
    have lx := aMax_lt (fun k => sWi T S k m) k iv_k.2
    have ec : T 3 = k → aMax (fun k => sWi T S k m) (T 3) = aMax (fun k => sWi T S k m) k := fun q => congrArg _ q
    rw [iv_k.1]
    generalize aMax (fun k => sWi T S k m) k = z at es lx ec ⊢
    refine gj_iload (pc' := 33) dX11_whitest_31 rfl rfl ?_
    refine gj_aload_n (pc' := 34) dX11_whitest_33 rfl rfl ?_
    refine gf_X11_20 (pc' := 37) dX11_whitest_34 rfl (by first | rfl | assumption) rfl ?_
    refine gj_iconst (pc' := 38) dX11_whitest_37 rfl ?_
    refine gj_iald (pc' := 39) (j := 3) (by first | rfl | assumption) (by omega) (by omega) (by decide) dX11_whitest_38 rfl ?_
    rw [hA2.1 3 (by omega)]
    refine gj_icmp_ge (pc' := 42) (tgt := 67) dX11_whitest_39 (by decide) rfl (by omega) (fun c39 => ?_) (fun c39 => ?_)
    · refine gj_iload_n (pc' := 68) dX11_whitest_67 rfl rfl ?_
      refine gj_iret rfl dX11_whitest_68 ?_
      exact qM_g (by unfold aToN; rw [if_pos (by omega), if_pos (by omega)]; simp only [Int.toNat_natCast]; rw [ec (by omega)])
    · refine gj_aload_n (pc' := 43) dX11_whitest_42 rfl rfl ?_
      refine gj_iload (pc' := 45) dX11_whitest_43 rfl rfl ?_
      refine gj_iload_n (pc' := 46) dX11_whitest_45 rfl rfl ?_
      refine gr_X11_302 (pc' := 49) dX11_whitest_46 rfl (m_whiteOf hM (by omega) (by omega)) rfl (by first | rfl | assumption) (by decide) rfl (Nat.le_of_ble_eq_true rfl) ?_
      refine gj_aload_n (pc' := 50) dX11_whitest_49 rfl rfl ?_
      refine gj_iload_n (pc' := 51) dX11_whitest_50 rfl rfl ?_
      refine gj_iload_n (pc' := 52) dX11_whitest_51 rfl rfl ?_
      refine gr_X11_302 (pc' := 55) dX11_whitest_52 rfl (m_whiteOf hM (by omega) (by omega)) rfl (by first | rfl | assumption) (by decide) rfl (Nat.le_of_ble_eq_true rfl) ?_
      refine gj_icmp_le (pc' := 58) (tgt := 61) dX11_whitest_55 (by decide) rfl (by have := sWi_le hT hS (h := k) (n := m) (by omega) (by omega); have := sWi_le hT hS (h := z) (n := m) (by omega) (by omega); omega) (fun c55 => ?_) (fun c55 => ?_)
      · refine gj_iinc (pc' := 64) dX11_whitest_61 rfl rfl (by decide) ?_
        refine gj_goto (pc' := 31) dX11_whitest_64 (by decide) ?_
        refine gJ_wk (ih_k ?x_2 (by omega) ?iv_2) ?ll_2
        case ll_2 =>
          repeat' (first | exact True.intro | with_reducible exact rfl | refine And.intro ?_ ?_ | refine vI ?_ | refine vL ?_)
          all_goals omega
        rw [es]
        first | rw [if_pos (by omega)]; exact ⟨rfl, by omega⟩ | rw [if_neg (by omega)]; exact ⟨rfl, by omega⟩
      · refine gj_iload (pc' := 60) dX11_whitest_58 rfl rfl ?_
        refine gj_istore_n (pc' := 61) dX11_whitest_60 rfl (by decide) ?_
        refine gj_iinc (pc' := 64) dX11_whitest_61 rfl rfl (by decide) ?_
        refine gj_goto (pc' := 31) dX11_whitest_64 (by decide) ?_
        refine gJ_wk (ih_k ?x_3 (by omega) ?iv_3) ?ll_3
        case ll_3 =>
          repeat' (first | exact True.intro | with_reducible exact rfl | refine And.intro ?_ ?_ | refine vI ?_ | refine vL ?_)
          all_goals omega
        rw [es]
        first | rw [if_pos (by omega)]; exact ⟨rfl, by omega⟩ | rw [if_neg (by omega)]; exact ⟨rfl, by omega⟩
  · first | have g17 := of_decide_eq_true c17 | have g17 := of_decide_eq_false c17 | skip
    refine gj_aload_n (pc' := 21) dX11_whitest_20 rfl rfl ?_
    refine gj_iload_n (pc' := 22) dX11_whitest_21 rfl rfl ?_
    refine gc_X11_156 (pc' := 25) dX11_whitest_22 rfl (m_no) rfl (by first | rfl | assumption) (by decide) rfl (Nat.le_of_ble_eq_true rfl) (fun v9 h9 q9 => ?_)
    obtain ⟨rfl, rfl⟩ := q9
    show gJ _ _ _ _ _ _ _ (.int (zI (-1)) :: _) _ _
    refine gj_iret rfl dX11_whitest_25 ?_
    first | exact qM_g (by unfold aToN; (try simp only [Int.toNat_natCast]); repeat' (first | (exfalso; omega) | split | rfl | (congr 1; omega) | simp_all)) | exact qM_n (by unfold aToN; (try simp only [Int.toNat_natCast]); repeat' (first | (exfalso; omega) | split | rfl | (congr 1; omega) | simp_all))
theorem m_allSit {h : gH} {T S : Nat → Nat} (hQ : mQ h T S) : gSp 12 yX11_allSit cX11_allSit 4 (some .int) [.ref 142] h (qM (aTown T (sAll T S)).1 (aTown T (sAll T S)).2 h) := by
  obtain ⟨hA, hH, hZ, -⟩ := id hQ
  have hH2 : (mG h).1 142 14 = bI (decide (T 3 ≠ 0)) := hH
  refine gSp_of (by decide +kernel) (Nat.le_of_ble_eq_true rfl) ?_
  show gJ RX11 cX11_allSit 4 (some .int) _ 0 [some (.ref 142), none, none, none] [] _ _
  refine gj_aload_n (pc' := 1) dX11_allSit_0 rfl rfl ?_
  refine gc_X11_153 (pc' := 4) dX11_allSit_1 rfl (m_good) rfl (by first | rfl | assumption) (by decide) rfl (Nat.le_of_ble_eq_true rfl) (fun v9 h9 q9 => ?_)
  obtain ⟨rfl, rfl⟩ := q9
  show gJ _ _ _ _ _ _ _ [] _ _
  refine gj_aload_n (pc' := 5) dX11_allSit_4 rfl rfl ?_
  refine gf_X11_166 (pc' := 8) dX11_allSit_5 rfl (by first | rfl | assumption) rfl ?_
  rw [hH2]
  first | refine gj_ifB_ne (pc' := 11) (tgt := 17) dX11_allSit_8 (by decide) rfl (fun c8 => ?_) (fun c8 => ?_) | refine gj_if_ne (pc' := 11) (tgt := 17) dX11_allSit_8 (by decide) rfl (by omega) (fun c8 => ?_) (fun c8 => ?_)
  · first | have g8 := of_decide_eq_true c8 | have g8 := of_decide_eq_false c8 | skip
    have hM : MI (mG h) T S := hQ.mi (by omega)
    obtain ⟨hA2, hT, hS⟩ := id hM
    have h3 := hT.2.2.2.1
    have h4 : T 4 ≤ 7 := hT.2.2.2.2.1
    have hd := hS.2.2.1
    have g19 := sv19 hT hS
    refine gj_iconst (pc' := 18) dX11_allSit_17 rfl ?_
    refine gj_istore_n (pc' := 19) dX11_allSit_18 rfl (by decide) ?_
    refine gJ_wk (gJ_fI1 (L := fun n x => [some (.ref 142), some (.int (zI x)), none, none]) (I := fun n x => x = (n : Int) ∧ fstN (fun n => aN (fun b => decide (2 ≤ sWh T S b (S 20 + n))) (T 4)) n = -2) (61) (fun n x hb_n iv_n ih_n => ?step_1) (0) (Nat.zero_le _) ?x0_1 ?iv0_1) ?ll0_1
    case ll0_1 =>
      repeat' (first | exact True.intro | with_reducible exact rfl | refine And.intro ?_ ?_ | refine vI ?_ | refine vL ?_)
      all_goals first | rfl | omega
    case iv0_1 =>
      exact ⟨rfl, rfl⟩
    obtain ⟨rfl, hk⟩ := iv_n
    have es := fstN_s (fun n => aN (fun b => decide (2 ≤ sWh T S b (S 20 + n))) (T 4)) n
    have ef : aN (fun b => decide (2 ≤ sWh T S b (S 20 + n))) (T 4) = true → n < 61 → sAll T S = (n : Int) := fun q q2 => fstN_at (p := fun n => aN (fun b => decide (2 ≤ sWh T S b (S 20 + n))) (T 4)) (v := n) q (fun j hj => by
      cases hp : aN (fun b => decide (2 ≤ sWh T S b (S 20 + j))) (T 4) with
      | false => rfl
      | true => exact absurd hk (fstN_ne (p := fun n => aN (fun b => decide (2 ≤ sWh T S b (S 20 + n))) (T 4)) (j := j) hp n hj)) q2
    refine gj_iload_n (pc' := 20) dX11_allSit_19 rfl rfl ?_
    refine gj_bipush (pc' := 22) dX11_allSit_20 rfl (by decide) ?_
    refine gj_icmp_gt (pc' := 25) (tgt := 85) dX11_allSit_22 (by decide) rfl (by omega) (fun c22 => ?_) (fun c22 => ?_)
    · refine gj_bipush (pc' := 87) dX11_allSit_85 rfl (by decide) ?_
      refine gj_iret rfl dX11_allSit_87 ?_
      exact qM_g (by unfold aTown; rw [if_pos (by omega), show sAll T S = fstN (fun n => aN (fun b => decide (2 ≤ sWh T S b (S 20 + n))) (T 4)) 61 from rfl, show 61 = n by omega, hk])
    · refine gj_iconst (pc' := 26) dX11_allSit_25 rfl ?_
      refine gj_istore_n (pc' := 27) dX11_allSit_26 rfl (by decide) ?_
      refine gj_iconst (pc' := 28) dX11_allSit_27 rfl ?_
      refine gj_istore_n (pc' := 29) dX11_allSit_28 rfl (by decide) ?_
      refine gJ_wk (gJ_for (L := fun b => [some (.ref 142), some (.int (zI (n : Int))), some (.int (zI (bI (aN (fun b => decide (2 ≤ sWh T S b (S 20 + n))) b)))), some (.int (zI (b : Int)))]) (T 4) (fun b hb_b ih_b => ?_) (0) (Nat.zero_le _)) ?_
      · have ea : aN (fun b => decide (2 ≤ sWh T S b (S 20 + n))) (b + 1) = (aN (fun b => decide (2 ≤ sWh T S b (S 20 + n))) b && decide (2 ≤ sWh T S b (S 20 + n))) := rfl
        have hl : sWh T S b (S 20 + n) ≤ 3 := by unfold sWh; repeat' (first | omega | split)
        have ec : T 4 = b → aN (fun b => decide (2 ≤ sWh T S b (S 20 + n))) (T 4) = aN (fun b => decide (2 ≤ sWh T S b (S 20 + n))) b := fun q => congrArg _ q
        generalize aN (fun b => decide (2 ≤ sWh T S b (S 20 + n))) b = al at ea ec ⊢
        refine gj_iload_n (pc' := 30) dX11_allSit_29 rfl rfl ?_
        refine gj_aload_n (pc' := 31) dX11_allSit_30 rfl rfl ?_
        refine gf_X11_20 (pc' := 34) dX11_allSit_31 rfl (by first | rfl | assumption) rfl ?_
        refine gj_iconst (pc' := 35) dX11_allSit_34 rfl ?_
        refine gj_iald (pc' := 36) (j := 4) (by first | rfl | assumption) (by omega) (by omega) (by decide) dX11_allSit_35 rfl ?_
        rw [hA2.1 4 (by omega)]
        refine gj_icmp_ge (pc' := 39) (tgt := 73) dX11_allSit_36 (by decide) rfl (by omega) (fun c36 => ?_) (fun c36 => ?_)
        · refine gj_iload_n (pc' := 74) dX11_allSit_73 rfl rfl ?_
          first | refine gj_ifB_eq (pc' := 77) (tgt := 79) dX11_allSit_74 (by decide) rfl (fun c74 => ?_) (fun c74 => ?_) | refine gj_if_eq (pc' := 77) (tgt := 79) dX11_allSit_74 (by decide) rfl (by omega) (fun c74 => ?_) (fun c74 => ?_)
          · first | have g74 := of_decide_eq_true c74 | have g74 := of_decide_eq_false c74 | skip
            refine gj_iinc (pc' := 82) dX11_allSit_79 rfl rfl (by decide) ?_
            refine gj_goto (pc' := 19) dX11_allSit_82 (by decide) ?_
            refine gJ_wk (ih_n ?x_2 (by omega) ?iv_2) ?ll_2
            case ll_2 =>
              repeat' (first | exact True.intro | with_reducible exact rfl | refine And.intro ?_ ?_ | refine vI ?_ | refine vL ?_)
              all_goals omega
            refine ⟨by omega, ?_⟩
            rw [es, if_neg (by rw [ec (by omega), c74]; simp)]
            exact hk
          · first | have g74 := of_decide_eq_true c74 | have g74 := of_decide_eq_false c74 | skip
            refine gj_iload_n (pc' := 78) dX11_allSit_77 rfl rfl ?_
            refine gj_iret rfl dX11_allSit_78 ?_
            exact qM_g (by unfold aTown; rw [if_pos (by omega), ef (by rw [ec (by omega), c74]) (by omega)])
        · refine gj_iload_n (pc' := 40) dX11_allSit_39 rfl rfl ?_
          first | refine gj_ifB_eq (pc' := 43) (tgt := 65) dX11_allSit_40 (by decide) rfl (fun c40 => ?_) (fun c40 => ?_) | refine gj_if_eq (pc' := 43) (tgt := 65) dX11_allSit_40 (by decide) rfl (by omega) (fun c40 => ?_) (fun c40 => ?_)
          · first | have g40 := of_decide_eq_true c40 | have g40 := of_decide_eq_false c40 | skip
            refine gj_iconst (pc' := 66) dX11_allSit_65 rfl ?_
            refine gj_istore_n (pc' := 67) dX11_allSit_66 rfl (by decide) ?_
            refine gj_iinc (pc' := 70) dX11_allSit_67 rfl rfl (by decide) ?_
            refine gj_goto (pc' := 29) dX11_allSit_70 (by decide) ?_
            refine gJ_wk (ih_b (by omega)) ?_
            repeat' (first | exact True.intro | with_reducible exact rfl | refine And.intro ?_ ?_ | refine vI ?_ | refine vL ?_)
            all_goals first | omega | (rw [ea, c40, decide_eq_true (by omega)]; rfl) | (rw [ea, c40, decide_eq_false (by omega)]; rfl) | (rw [ea, c40]; rfl)
          · first | have g40 := of_decide_eq_true c40 | have g40 := of_decide_eq_false c40 | skip
            refine gj_aload_n (pc' := 44) dX11_allSit_43 rfl rfl ?_
            refine gj_iload_n (pc' := 45) dX11_allSit_44 rfl rfl ?_
            refine gj_aload_n (pc' := 46) dX11_allSit_45 rfl rfl ?_
            refine gf_X11_26 (pc' := 49) dX11_allSit_46 rfl (by first | rfl | assumption) rfl ?_
            refine gj_bipush (pc' := 51) dX11_allSit_49 rfl (by decide) ?_
            refine gj_iald (pc' := 52) (j := 20) (by first | rfl | assumption) (by omega) (by omega) (by decide) dX11_allSit_51 rfl ?_
            rw [hA2.2 20 (by omega)]
            refine gj_iload_n (pc' := 53) dX11_allSit_52 rfl rfl ?_
            refine gj_iadd (pc' := 54) dX11_allSit_53 rfl ?_
            rw [show ((S 20 : Int) + (n : Int)) = ((S 20 + n : Nat) : Int) by omega]
            refine gr_X11_268 (pc' := 57) dX11_allSit_54 rfl (m_whereOn hM (by omega) (by omega)) rfl (by first | rfl | assumption) (by decide) rfl (Nat.le_of_ble_eq_true rfl) ?_
            refine gj_iconst (pc' := 58) dX11_allSit_57 rfl ?_
            refine gj_icmp_lt (pc' := 61) (tgt := 65) dX11_allSit_58 (by decide) rfl (by omega) (fun c58 => ?_) (fun c58 => ?_)
            · refine gj_iconst (pc' := 66) dX11_allSit_65 rfl ?_
              refine gj_istore_n (pc' := 67) dX11_allSit_66 rfl (by decide) ?_
              refine gj_iinc (pc' := 70) dX11_allSit_67 rfl rfl (by decide) ?_
              refine gj_goto (pc' := 29) dX11_allSit_70 (by decide) ?_
              refine gJ_wk (ih_b (by omega)) ?_
              repeat' (first | exact True.intro | with_reducible exact rfl | refine And.intro ?_ ?_ | refine vI ?_ | refine vL ?_)
              all_goals first | omega | (rw [ea, c40, decide_eq_true (by omega)]; rfl) | (rw [ea, c40, decide_eq_false (by omega)]; rfl) | (rw [ea, c40]; rfl)
            · refine gj_iconst (pc' := 62) dX11_allSit_61 rfl ?_
              refine gj_goto (pc' := 66) dX11_allSit_62 (by decide) ?_
              refine gj_istore_n (pc' := 67) dX11_allSit_66 rfl (by decide) ?_
              refine gj_iinc (pc' := 70) dX11_allSit_67 rfl rfl (by decide) ?_
              refine gj_goto (pc' := 29) dX11_allSit_70 (by decide) ?_
              refine gJ_wk (ih_b (by omega)) ?_
              repeat' (first | exact True.intro | with_reducible exact rfl | refine And.intro ?_ ?_ | refine vI ?_ | refine vL ?_)
              all_goals first | omega | (rw [ea, c40, decide_eq_true (by omega)]; rfl) | (rw [ea, c40, decide_eq_false (by omega)]; rfl) | (rw [ea, c40]; rfl)
      · repeat' (first | exact True.intro | with_reducible exact rfl | refine And.intro ?_ ?_ | refine vI ?_ | refine vL ?_)
        all_goals first | rfl | omega
  · first | have g8 := of_decide_eq_true c8 | have g8 := of_decide_eq_false c8 | skip
    refine gj_aload_n (pc' := 12) dX11_allSit_11 rfl rfl ?_
    refine gj_iconst (pc' := 13) dX11_allSit_12 rfl ?_
    refine gc_X11_156 (pc' := 16) dX11_allSit_13 rfl (m_no) rfl (by first | rfl | assumption) (by decide) rfl (Nat.le_of_ble_eq_true rfl) (fun v9 h9 q9 => ?_)
    obtain ⟨rfl, rfl⟩ := q9
    show gJ _ _ _ _ _ _ _ (.int (zI (-1)) :: _) _ _
    refine gj_iret rfl dX11_allSit_16 ?_
    first | exact qM_g (by unfold aTown; (try simp only [Int.toNat_natCast]); repeat' (first | (exfalso; omega) | split | rfl | (congr 1; omega) | simp_all)) | exact qM_n (by unfold aTown; (try simp only [Int.toNat_natCast]); repeat' (first | (exfalso; omega) | split | rfl | (congr 1; omega) | simp_all))
theorem m_mayMeet {h : gH} {T S : Nat → Nat} {a : Int} (hQ : mQ h T S) (ha : inB a) : gSp 12 yX11_mayMeet cX11_mayMeet 4 (some .int) [.ref 142, .int (zI a)] h (qM (aBi T a (fun n => (sMates T S n : Int))).1 (aBi T a (fun n => (sMates T S n : Int))).2 h) := by
  obtain ⟨hA, hH, hZ, -⟩ := id hQ
  have hH2 : (mG h).1 142 14 = bI (decide (T 3 ≠ 0)) := hH
  have ha2 := ha
  unfold inB at ha2
  refine gSp_of (by decide +kernel) (Nat.le_of_ble_eq_true rfl) ?_
  show gJ RX11 cX11_mayMeet 4 (some .int) _ 0 [some (.ref 142), some (.int (zI a)), none, none] [] _ _
  refine gj_aload_n (pc' := 1) dX11_mayMeet_0 rfl rfl ?_
  refine gc_X11_153 (pc' := 4) dX11_mayMeet_1 rfl (m_good) rfl (by first | rfl | assumption) (by decide) rfl (Nat.le_of_ble_eq_true rfl) (fun v9 h9 q9 => ?_)
  obtain ⟨rfl, rfl⟩ := q9
  show gJ _ _ _ _ _ _ _ [] _ _
  refine gj_aload_n (pc' := 5) dX11_mayMeet_4 rfl rfl ?_
  refine gj_iload_n (pc' := 6) dX11_mayMeet_5 rfl rfl ?_
  refine gr_X11_286 (pc' := 9) dX11_mayMeet_6 rfl (m_isBirdQ hQ.g ha) rfl (by first | rfl | assumption) (by decide) rfl (Nat.le_of_ble_eq_true rfl) ?_
  first | refine gj_ifB_ne (pc' := 12) (tgt := 18) dX11_mayMeet_9 (by decide) rfl (fun c9 => ?_) (fun c9 => ?_) | refine gj_if_ne (pc' := 12) (tgt := 18) dX11_mayMeet_9 (by decide) rfl (by omega) (fun c9 => ?_) (fun c9 => ?_)
  · first | have g9 := of_decide_eq_true c9 | have g9 := of_decide_eq_false c9 | skip
    obtain ⟨n, rfl⟩ : ∃ n : Nat, a = (n : Int) := ⟨a.toNat, by omega⟩
    have hM : MI (mG h) T S := hQ.mi (by omega)
    obtain ⟨hA2, hT, hS⟩ := id hM
    have h3 := hT.2.2.2.1
    have h4 : T 4 ≤ 7 := hT.2.2.2.2.1
    have hd := hS.2.2.1
    have g19 := sv19 hT hS
    refine gj_iconst (pc' := 19) dX11_mayMeet_18 rfl ?_
    refine gj_istore_n (pc' := 20) dX11_mayMeet_19 rfl (by decide) ?_
    refine gj_iconst (pc' := 21) dX11_mayMeet_20 rfl ?_
    refine gj_istore_n (pc' := 22) dX11_mayMeet_21 rfl (by decide) ?_
    refine gJ_wk (gJ_for (L := fun b => [some (.ref 142), some (.int (zI (n : Int))), some (.int (zI ((bN (fun c => sPair T S n c) b : Nat) : Int))), some (.int (zI (b : Int)))]) (T 4) (fun b hb_b ih_b => ?_) (0) (Nat.zero_le _)) ?_
    · refine gj_iload_n (pc' := 23) dX11_mayMeet_22 rfl rfl ?_
      refine gj_aload_n (pc' := 24) dX11_mayMeet_23 rfl rfl ?_
      refine gf_X11_20 (pc' := 27) dX11_mayMeet_24 rfl (by first | rfl | assumption) rfl ?_
      refine gj_iconst (pc' := 28) dX11_mayMeet_27 rfl ?_
      refine gj_iald (pc' := 29) (j := 4) (by first | rfl | assumption) (by omega) (by omega) (by decide) dX11_mayMeet_28 rfl ?_
      rw [hA2.1 4 (by omega)]
      refine gj_icmp_ge (pc' := 32) (tgt := 57) dX11_mayMeet_29 (by decide) rfl (by omega) (fun c29 => ?_) (fun c29 => ?_)
      · refine gj_iload_n (pc' := 58) dX11_mayMeet_57 rfl rfl ?_
        refine gj_iret rfl dX11_mayMeet_58 ?_
        exact qM_g (by unfold aBi; rw [if_pos (by omega)]; show (((sMates T S n : Nat) : Int), (0 : Int)) = _; unfold sMates; rw [show T 4 = b by omega])
      · refine gj_iload_n (pc' := 33) dX11_mayMeet_32 rfl rfl ?_
        refine gj_aload_n (pc' := 34) dX11_mayMeet_33 rfl rfl ?_
        refine gj_iload_n (pc' := 35) dX11_mayMeet_34 rfl rfl ?_
        refine gj_iload_n (pc' := 36) dX11_mayMeet_35 rfl rfl ?_
        refine gr_X11_305 (pc' := 39) dX11_mayMeet_36 rfl (m_canMeet hM (by omega) (by omega)) rfl (by first | rfl | assumption) (by decide) rfl (Nat.le_of_ble_eq_true rfl) ?_
        first | refine gj_ifB_eq (pc' := 42) (tgt := 48) dX11_mayMeet_39 (by decide) rfl (fun c39 => ?_) (fun c39 => ?_) | refine gj_if_eq (pc' := 42) (tgt := 48) dX11_mayMeet_39 (by decide) rfl (by omega) (fun c39 => ?_) (fun c39 => ?_)
        · first | have g39 := of_decide_eq_true c39 | have g39 := of_decide_eq_false c39 | skip
          refine gj_iconst (pc' := 49) dX11_mayMeet_48 rfl ?_
          refine gj_ior (pc' := 50) dX11_mayMeet_49 rfl ?_
          first | rw [bN_orI (by omega)] | rw [bN_or0 (by omega)]
          refine gj_istore_n (pc' := 51) dX11_mayMeet_50 rfl (by decide) ?_
          refine gj_iinc (pc' := 54) dX11_mayMeet_51 rfl rfl (by decide) ?_
          refine gj_goto (pc' := 22) dX11_mayMeet_54 (by decide) ?_
          refine gJ_wk (ih_b (by omega)) ?_
          repeat' (first | exact True.intro | with_reducible exact rfl | refine And.intro ?_ ?_ | refine vI ?_ | refine vL ?_)
          all_goals first | omega | (rw [bN_t c39]) | (rw [bN_f c39])
        · first | have g39 := of_decide_eq_true c39 | have g39 := of_decide_eq_false c39 | skip
          refine gj_iconst (pc' := 43) dX11_mayMeet_42 rfl ?_
          refine gj_iload_n (pc' := 44) dX11_mayMeet_43 rfl rfl ?_
          refine gj_ishl (pc' := 45) dX11_mayMeet_44 rfl ?_
          rw [bt_shl1 (by omega)]
          refine gj_goto (pc' := 49) dX11_mayMeet_45 (by decide) ?_
          refine gj_ior (pc' := 50) dX11_mayMeet_49 rfl ?_
          first | rw [bN_orI (by omega)] | rw [bN_or0 (by omega)]
          refine gj_istore_n (pc' := 51) dX11_mayMeet_50 rfl (by decide) ?_
          refine gj_iinc (pc' := 54) dX11_mayMeet_51 rfl rfl (by decide) ?_
          refine gj_goto (pc' := 22) dX11_mayMeet_54 (by decide) ?_
          refine gJ_wk (ih_b (by omega)) ?_
          repeat' (first | exact True.intro | with_reducible exact rfl | refine And.intro ?_ ?_ | refine vI ?_ | refine vL ?_)
          all_goals first | omega | (rw [bN_t c39]) | (rw [bN_f c39])
    · repeat' (first | exact True.intro | with_reducible exact rfl | refine And.intro ?_ ?_ | refine vI ?_ | refine vL ?_)
      all_goals first | rfl | omega
  · first | have g9 := of_decide_eq_true c9 | have g9 := of_decide_eq_false c9 | skip
    refine gj_aload_n (pc' := 13) dX11_mayMeet_12 rfl rfl ?_
    refine gj_iconst (pc' := 14) dX11_mayMeet_13 rfl ?_
    refine gc_X11_156 (pc' := 17) dX11_mayMeet_14 rfl (m_no) rfl (by first | rfl | assumption) (by decide) rfl (Nat.le_of_ble_eq_true rfl) (fun v9 h9 q9 => ?_)
    obtain ⟨rfl, rfl⟩ := q9
    show gJ _ _ _ _ _ _ _ (.int (zI (-1)) :: _) _ _
    refine gj_iret rfl dX11_mayMeet_17 ?_
    first | exact qM_g (by unfold aBi; (try simp only [Int.toNat_natCast]); repeat' (first | (exfalso; omega) | split | rfl | (congr 1; omega) | simp_all)) | exact qM_n (by unfold aBi; (try simp only [Int.toNat_natCast]); repeat' (first | (exfalso; omega) | split | rfl | (congr 1; omega) | simp_all))
theorem m_meeting {h : gH} {T S : Nat → Nat} {a b : Int} (hQ : mQ h T S) (ha : inB a) (hb : inB b) : gSp 12 yX11_meeting cX11_meeting 3 (some .int) [.ref 142, .int (zI a), .int (zI b)] h (qM (aMeeting T S a b).1 (aMeeting T S a b).2 h) := by
  obtain ⟨hA, hH, hZ, -⟩ := id hQ
  have hH2 : (mG h).1 142 14 = bI (decide (T 3 ≠ 0)) := hH
  have ha2 := ha
  unfold inB at ha2
  have hb2 := hb
  unfold inB at hb2
  refine gSp_of (by decide +kernel) (Nat.le_of_ble_eq_true rfl) ?_
  show gJ RX11 cX11_meeting 3 (some .int) _ 0 [some (.ref 142), some (.int (zI a)), some (.int (zI b))] [] _ _
  refine gj_aload_n (pc' := 1) dX11_meeting_0 rfl rfl ?_
  refine gc_X11_153 (pc' := 4) dX11_meeting_1 rfl (m_good) rfl (by first | rfl | assumption) (by decide) rfl (Nat.le_of_ble_eq_true rfl) (fun v9 h9 q9 => ?_)
  obtain ⟨rfl, rfl⟩ := q9
  show gJ _ _ _ _ _ _ _ [] _ _
  refine gj_aload_n (pc' := 5) dX11_meeting_4 rfl rfl ?_
  refine gj_iload_n (pc' := 6) dX11_meeting_5 rfl rfl ?_
  refine gj_iload_n (pc' := 7) dX11_meeting_6 rfl rfl ?_
  refine gr_X11_308 (pc' := 10) dX11_meeting_7 rfl (m_areTwoQ hQ.g ha hb) rfl (by first | rfl | assumption) (by decide) rfl (Nat.le_of_ble_eq_true rfl) ?_
  first | refine gj_ifB_ne (pc' := 13) (tgt := 19) dX11_meeting_10 (by decide) rfl (fun c10 => ?_) (fun c10 => ?_) | refine gj_if_ne (pc' := 13) (tgt := 19) dX11_meeting_10 (by decide) rfl (by omega) (fun c10 => ?_) (fun c10 => ?_)
  · first | have g10 := of_decide_eq_true c10 | have g10 := of_decide_eq_false c10 | skip
    obtain ⟨n, rfl⟩ : ∃ n : Nat, a = (n : Int) := ⟨a.toNat, by omega⟩
    obtain ⟨m, rfl⟩ : ∃ m : Nat, b = (m : Int) := ⟨b.toNat, by omega⟩
    have hM : MI (mG h) T S := hQ.mi (by omega)
    obtain ⟨hA2, hT, hS⟩ := id hM
    have h3 := hT.2.2.2.1
    have h4 : T 4 ≤ 7 := hT.2.2.2.2.1
    have hd := hS.2.2.1
    have g19 := sv19 hT hS
    refine gj_aload_n (pc' := 20) dX11_meeting_19 rfl rfl ?_
    refine gj_iload_n (pc' := 21) dX11_meeting_20 rfl rfl ?_
    refine gj_iload_n (pc' := 22) dX11_meeting_21 rfl rfl ?_
    refine gr_X11_305 (pc' := 25) dX11_meeting_22 rfl (m_canMeet hM (by omega) (by omega)) rfl (by first | rfl | assumption) (by decide) rfl (Nat.le_of_ble_eq_true rfl) ?_
    first | refine gj_ifB_eq (pc' := 28) (tgt := 37) dX11_meeting_25 (by decide) rfl (fun c25 => ?_) (fun c25 => ?_) | refine gj_if_eq (pc' := 28) (tgt := 37) dX11_meeting_25 (by decide) rfl (by omega) (fun c25 => ?_) (fun c25 => ?_)
    · first | have g25 := of_decide_eq_true c25 | have g25 := of_decide_eq_false c25 | skip
      refine gj_bipush (pc' := 39) dX11_meeting_37 rfl (by decide) ?_
      refine gj_iret rfl dX11_meeting_39 ?_
      first | exact qM_g (by unfold aMeeting; (try simp only [Int.toNat_natCast]); repeat' (first | (exfalso; omega) | split | rfl | (congr 1; omega) | simp_all)) | exact qM_n (by unfold aMeeting; (try simp only [Int.toNat_natCast]); repeat' (first | (exfalso; omega) | split | rfl | (congr 1; omega) | simp_all))
    · first | have g25 := of_decide_eq_true c25 | have g25 := of_decide_eq_false c25 | skip
      refine gj_aload_n (pc' := 29) dX11_meeting_28 rfl rfl ?_
      refine gj_iload_n (pc' := 30) dX11_meeting_29 rfl rfl ?_
      refine gj_iload_n (pc' := 31) dX11_meeting_30 rfl rfl ?_
      refine gr_X11_311 (pc' := 34) dX11_meeting_31 rfl (m_meetingOf hM (by omega) (by omega)) rfl (by first | rfl | assumption) (by decide) rfl (Nat.le_of_ble_eq_true rfl) ?_
      refine gj_goto (pc' := 39) dX11_meeting_34 (by decide) ?_
      refine gj_iret rfl dX11_meeting_39 ?_
      first | exact qM_g (by unfold aMeeting; (try simp only [Int.toNat_natCast]); repeat' (first | (exfalso; omega) | split | rfl | (congr 1; omega) | simp_all)) | exact qM_n (by unfold aMeeting; (try simp only [Int.toNat_natCast]); repeat' (first | (exfalso; omega) | split | rfl | (congr 1; omega) | simp_all))
  · first | have g10 := of_decide_eq_true c10 | have g10 := of_decide_eq_false c10 | skip
    refine gj_aload_n (pc' := 14) dX11_meeting_13 rfl rfl ?_
    refine gj_iconst (pc' := 15) dX11_meeting_14 rfl ?_
    refine gc_X11_156 (pc' := 18) dX11_meeting_15 rfl (m_no) rfl (by first | rfl | assumption) (by decide) rfl (Nat.le_of_ble_eq_true rfl) (fun v9 h9 q9 => ?_)
    obtain ⟨rfl, rfl⟩ := q9
    show gJ _ _ _ _ _ _ _ (.int (zI (-1)) :: _) _ _
    refine gj_iret rfl dX11_meeting_18 ?_
    first | exact qM_g (by unfold aMeeting; (try simp only [Int.toNat_natCast]); repeat' (first | (exfalso; omega) | split | rfl | (congr 1; omega) | simp_all)) | exact qM_n (by unfold aMeeting; (try simp only [Int.toNat_natCast]); repeat' (first | (exfalso; omega) | split | rfl | (congr 1; omega) | simp_all))
theorem m_owes {h : gH} {T S : Nat → Nat} {a : Int} (hQ : mQ h T S) (ha : inB a) : gSp 12 yX11_owes cX11_owes 2 (some .int) [.ref 142, .int (zI a)] h (qM (aHo T a (fun n => (sOwe T S n : Int))).1 (aHo T a (fun n => (sOwe T S n : Int))).2 h) := by
  obtain ⟨hA, hH, hZ, -⟩ := id hQ
  have hH2 : (mG h).1 142 14 = bI (decide (T 3 ≠ 0)) := hH
  have ha2 := ha
  unfold inB at ha2
  refine gSp_of (by decide +kernel) (Nat.le_of_ble_eq_true rfl) ?_
  show gJ RX11 cX11_owes 2 (some .int) _ 0 [some (.ref 142), some (.int (zI a))] [] _ _
  refine gj_aload_n (pc' := 1) dX11_owes_0 rfl rfl ?_
  refine gc_X11_153 (pc' := 4) dX11_owes_1 rfl (m_good) rfl (by first | rfl | assumption) (by decide) rfl (Nat.le_of_ble_eq_true rfl) (fun v9 h9 q9 => ?_)
  obtain ⟨rfl, rfl⟩ := q9
  show gJ _ _ _ _ _ _ _ [] _ _
  refine gj_aload_n (pc' := 5) dX11_owes_4 rfl rfl ?_
  refine gj_iload_n (pc' := 6) dX11_owes_5 rfl rfl ?_
  refine gr_X11_277 (pc' := 9) dX11_owes_6 rfl (m_isHouseQ hQ.g ha) rfl (by first | rfl | assumption) (by decide) rfl (Nat.le_of_ble_eq_true rfl) ?_
  first | refine gj_ifB_eq (pc' := 12) (tgt := 24) dX11_owes_9 (by decide) rfl (fun c9 => ?_) (fun c9 => ?_) | refine gj_if_eq (pc' := 12) (tgt := 24) dX11_owes_9 (by decide) rfl (by omega) (fun c9 => ?_) (fun c9 => ?_)
  · first | have g9 := of_decide_eq_true c9 | have g9 := of_decide_eq_false c9 | skip
    refine gj_aload_n (pc' := 25) dX11_owes_24 rfl rfl ?_
    refine gj_iconst (pc' := 26) dX11_owes_25 rfl ?_
    refine gc_X11_156 (pc' := 29) dX11_owes_26 rfl (m_no) rfl (by first | rfl | assumption) (by decide) rfl (Nat.le_of_ble_eq_true rfl) (fun v9 h9 q9 => ?_)
    obtain ⟨rfl, rfl⟩ := q9
    show gJ _ _ _ _ _ _ _ (.int (zI (-1)) :: _) _ _
    refine gj_iret rfl dX11_owes_29 ?_
    first | exact qM_g (by unfold aHo; (try simp only [Int.toNat_natCast]); repeat' (first | (exfalso; omega) | split | rfl | (congr 1; omega) | simp_all)) | exact qM_n (by unfold aHo; (try simp only [Int.toNat_natCast]); repeat' (first | (exfalso; omega) | split | rfl | (congr 1; omega) | simp_all))
  · first | have g9 := of_decide_eq_true c9 | have g9 := of_decide_eq_false c9 | skip
    obtain ⟨n, rfl⟩ : ∃ n : Nat, a = (n : Int) := ⟨a.toNat, by omega⟩
    have hM : MI (mG h) T S := hQ.mi (by omega)
    obtain ⟨hA2, hT, hS⟩ := id hM
    have h3 := hT.2.2.2.1
    have h4 : T 4 ≤ 7 := hT.2.2.2.2.1
    have hd := hS.2.2.1
    have g19 := sv19 hT hS
    refine gj_aload_n (pc' := 13) dX11_owes_12 rfl rfl ?_
    refine gj_aload_n (pc' := 14) dX11_owes_13 rfl rfl ?_
    refine gj_iload_n (pc' := 15) dX11_owes_14 rfl rfl ?_
    refine gr_X11_283 (pc' := 18) dX11_owes_15 rfl (m_against hM (by omega)) rfl (by first | rfl | assumption) (by decide) rfl (Nat.le_of_ble_eq_true rfl) ?_
    refine gr_X11_314 (pc' := 21) dX11_owes_18 rfl (m_leftsOf (m := sAg T S n) hM (pc_lt h4)) rfl (by first | rfl | assumption) (by decide) rfl (Nat.le_of_ble_eq_true rfl) ?_
    rw [sSum_ag]
    refine gj_goto (pc' := 29) dX11_owes_21 (by decide) ?_
    refine gj_iret rfl dX11_owes_29 ?_
    first | exact qM_g (by unfold aHo; (try simp only [Int.toNat_natCast]); repeat' (first | (exfalso; omega) | split | rfl | (congr 1; omega) | simp_all)) | exact qM_n (by unfold aHo; (try simp only [Int.toNat_natCast]); repeat' (first | (exfalso; omega) | split | rfl | (congr 1; omega) | simp_all))
theorem m_poor {h : gH} {T S : Nat → Nat} (hQ : mQ h T S) : gSp 12 yX11_poor cX11_poor 3 (some .int) [.ref 142] h (qM (aTown T (bN (fun k => decide (S (13 + k) < sOwe T S k)) (T 3) : Nat)).1 (aTown T (bN (fun k => decide (S (13 + k) < sOwe T S k)) (T 3) : Nat)).2 h) := by
  obtain ⟨hA, hH, hZ, -⟩ := id hQ
  have hH2 : (mG h).1 142 14 = bI (decide (T 3 ≠ 0)) := hH
  refine gSp_of (by decide +kernel) (Nat.le_of_ble_eq_true rfl) ?_
  show gJ RX11 cX11_poor 3 (some .int) _ 0 [some (.ref 142), none, none] [] _ _
  refine gj_aload_n (pc' := 1) dX11_poor_0 rfl rfl ?_
  refine gc_X11_153 (pc' := 4) dX11_poor_1 rfl (m_good) rfl (by first | rfl | assumption) (by decide) rfl (Nat.le_of_ble_eq_true rfl) (fun v9 h9 q9 => ?_)
  obtain ⟨rfl, rfl⟩ := q9
  show gJ _ _ _ _ _ _ _ [] _ _
  refine gj_aload_n (pc' := 5) dX11_poor_4 rfl rfl ?_
  refine gf_X11_166 (pc' := 8) dX11_poor_5 rfl (by first | rfl | assumption) rfl ?_
  rw [hH2]
  first | refine gj_ifB_ne (pc' := 11) (tgt := 17) dX11_poor_8 (by decide) rfl (fun c8 => ?_) (fun c8 => ?_) | refine gj_if_ne (pc' := 11) (tgt := 17) dX11_poor_8 (by decide) rfl (by omega) (fun c8 => ?_) (fun c8 => ?_)
  · first | have g8 := of_decide_eq_true c8 | have g8 := of_decide_eq_false c8 | skip
    have hM : MI (mG h) T S := hQ.mi (by omega)
    obtain ⟨hA2, hT, hS⟩ := id hM
    have h3 := hT.2.2.2.1
    have h4 : T 4 ≤ 7 := hT.2.2.2.2.1
    have hd := hS.2.2.1
    have g19 := sv19 hT hS
    refine gj_iconst (pc' := 18) dX11_poor_17 rfl ?_
    refine gj_istore_n (pc' := 19) dX11_poor_18 rfl (by decide) ?_
    refine gj_iconst (pc' := 20) dX11_poor_19 rfl ?_
    refine gj_istore_n (pc' := 21) dX11_poor_20 rfl (by decide) ?_
    refine gJ_wk (gJ_for (L := fun b => [some (.ref 142), some (.int (zI ((bN (fun k => decide (S (13 + k) < sOwe T S k)) b : Nat) : Int))), some (.int (zI (b : Int)))]) (T 3) (fun b hb_b ih_b => ?_) (0) (Nat.zero_le _)) ?_
    · refine gj_iload_n (pc' := 22) dX11_poor_21 rfl rfl ?_
      refine gj_aload_n (pc' := 23) dX11_poor_22 rfl rfl ?_
      refine gf_X11_20 (pc' := 26) dX11_poor_23 rfl (by first | rfl | assumption) rfl ?_
      refine gj_iconst (pc' := 27) dX11_poor_26 rfl ?_
      refine gj_iald (pc' := 28) (j := 3) (by first | rfl | assumption) (by omega) (by omega) (by decide) dX11_poor_27 rfl ?_
      rw [hA2.1 3 (by omega)]
      refine gj_icmp_ge (pc' := 31) (tgt := 68) dX11_poor_28 (by decide) rfl (by omega) (fun c28 => ?_) (fun c28 => ?_)
      · refine gj_iload_n (pc' := 69) dX11_poor_68 rfl rfl ?_
        refine gj_iret rfl dX11_poor_69 ?_
        exact qM_g (by unfold aTown; rw [if_pos (by omega), show T 3 = b by omega])
      · refine gj_iload_n (pc' := 32) dX11_poor_31 rfl rfl ?_
        refine gj_aload_n (pc' := 33) dX11_poor_32 rfl rfl ?_
        refine gf_X11_26 (pc' := 36) dX11_poor_33 rfl (by first | rfl | assumption) rfl ?_
        refine gj_bipush (pc' := 38) dX11_poor_36 rfl (by decide) ?_
        refine gj_iload_n (pc' := 39) dX11_poor_38 rfl rfl ?_
        refine gj_iadd (pc' := 40) dX11_poor_39 rfl ?_
        refine gj_iald (pc' := 41) (j := 13 + b) (by first | rfl | assumption) (by omega) (by omega) (by decide) dX11_poor_40 rfl ?_
        rw [hA2.2 _ (by omega)]
        refine gj_aload_n (pc' := 42) dX11_poor_41 rfl rfl ?_
        refine gj_aload_n (pc' := 43) dX11_poor_42 rfl rfl ?_
        refine gj_iload_n (pc' := 44) dX11_poor_43 rfl rfl ?_
        refine gr_X11_283 (pc' := 47) dX11_poor_44 rfl (m_against hM (by omega)) rfl (by first | rfl | assumption) (by decide) rfl (Nat.le_of_ble_eq_true rfl) ?_
        refine gr_X11_314 (pc' := 50) dX11_poor_47 rfl (m_leftsOf (m := sAg T S b) hM (pc_lt h4)) rfl (by first | rfl | assumption) (by decide) rfl (Nat.le_of_ble_eq_true rfl) ?_
        rw [sSum_ag]
        refine gj_icmp_ge (pc' := 53) (tgt := 59) dX11_poor_50 (by decide) rfl (by have := hS.2.2.2.2 b (by omega); have := sOwe_le (S := S) hT b; omega) (fun c50 => ?_) (fun c50 => ?_)
        · refine gj_iconst (pc' := 60) dX11_poor_59 rfl ?_
          refine gj_ior (pc' := 61) dX11_poor_60 rfl ?_
          first | rw [bN_orI (by omega)] | rw [bN_or0 (by omega)]
          refine gj_istore_n (pc' := 62) dX11_poor_61 rfl (by decide) ?_
          refine gj_iinc (pc' := 65) dX11_poor_62 rfl rfl (by decide) ?_
          refine gj_goto (pc' := 21) dX11_poor_65 (by decide) ?_
          refine gJ_wk (ih_b (by omega)) ?_
          repeat' (first | exact True.intro | with_reducible exact rfl | refine And.intro ?_ ?_ | refine vI ?_ | refine vL ?_)
          all_goals first | omega | (rw [bN_t (by simp; omega)]) | (rw [bN_f (by simp; omega)])
        · refine gj_iconst (pc' := 54) dX11_poor_53 rfl ?_
          refine gj_iload_n (pc' := 55) dX11_poor_54 rfl rfl ?_
          refine gj_ishl (pc' := 56) dX11_poor_55 rfl ?_
          rw [bt_shl1 (by omega)]
          refine gj_goto (pc' := 60) dX11_poor_56 (by decide) ?_
          refine gj_ior (pc' := 61) dX11_poor_60 rfl ?_
          first | rw [bN_orI (by omega)] | rw [bN_or0 (by omega)]
          refine gj_istore_n (pc' := 62) dX11_poor_61 rfl (by decide) ?_
          refine gj_iinc (pc' := 65) dX11_poor_62 rfl rfl (by decide) ?_
          refine gj_goto (pc' := 21) dX11_poor_65 (by decide) ?_
          refine gJ_wk (ih_b (by omega)) ?_
          repeat' (first | exact True.intro | with_reducible exact rfl | refine And.intro ?_ ?_ | refine vI ?_ | refine vL ?_)
          all_goals first | omega | (rw [bN_t (by simp; omega)]) | (rw [bN_f (by simp; omega)])
    · repeat' (first | exact True.intro | with_reducible exact rfl | refine And.intro ?_ ?_ | refine vI ?_ | refine vL ?_)
      all_goals first | rfl | omega
  · first | have g8 := of_decide_eq_true c8 | have g8 := of_decide_eq_false c8 | skip
    refine gj_aload_n (pc' := 12) dX11_poor_11 rfl rfl ?_
    refine gj_iconst (pc' := 13) dX11_poor_12 rfl ?_
    refine gc_X11_156 (pc' := 16) dX11_poor_13 rfl (m_no) rfl (by first | rfl | assumption) (by decide) rfl (Nat.le_of_ble_eq_true rfl) (fun v9 h9 q9 => ?_)
    obtain ⟨rfl, rfl⟩ := q9
    show gJ _ _ _ _ _ _ _ (.int (zI (-1)) :: _) _ _
    refine gj_iret rfl dX11_poor_16 ?_
    first | exact qM_g (by unfold aTown; (try simp only [Int.toNat_natCast]); repeat' (first | (exfalso; omega) | split | rfl | (congr 1; omega) | simp_all)) | exact qM_n (by unfold aTown; (try simp only [Int.toNat_natCast]); repeat' (first | (exfalso; omega) | split | rfl | (congr 1; omega) | simp_all))
theorem m_feud {h : gH} {T S : Nat → Nat} {a b : Int} (hQ : mQ h T S) (ha : inB a) (hb : inB b) : gSp 12 yX11_feud cX11_feud 5 (some .int) [.ref 142, .int (zI a), .int (zI b)] h (qM (aFeud T S a b).1 (aFeud T S a b).2 h) := by
  obtain ⟨hA, hH, hZ, -⟩ := id hQ
  have hH2 : (mG h).1 142 14 = bI (decide (T 3 ≠ 0)) := hH
  have ha2 := ha
  unfold inB at ha2
  have hb2 := hb
  unfold inB at hb2
  refine gSp_of (by decide +kernel) (Nat.le_of_ble_eq_true rfl) ?_
  show gJ RX11 cX11_feud 5 (some .int) _ 0 [some (.ref 142), some (.int (zI a)), some (.int (zI b)), none, none] [] _ _
  refine gj_aload_n (pc' := 1) dX11_feud_0 rfl rfl ?_
  refine gc_X11_153 (pc' := 4) dX11_feud_1 rfl (m_good) rfl (by first | rfl | assumption) (by decide) rfl (Nat.le_of_ble_eq_true rfl) (fun v9 h9 q9 => ?_)
  obtain ⟨rfl, rfl⟩ := q9
  show gJ _ _ _ _ _ _ _ [] _ _
  refine gj_aload_n (pc' := 5) dX11_feud_4 rfl rfl ?_
  refine gj_iload_n (pc' := 6) dX11_feud_5 rfl rfl ?_
  refine gj_iload_n (pc' := 7) dX11_feud_6 rfl rfl ?_
  refine gr_X11_289 (pc' := 10) dX11_feud_7 rfl (m_areHousesQ hQ.g ha hb) rfl (by first | rfl | assumption) (by decide) rfl (Nat.le_of_ble_eq_true rfl) ?_
  first | refine gj_ifB_ne (pc' := 13) (tgt := 19) dX11_feud_10 (by decide) rfl (fun c10 => ?_) (fun c10 => ?_) | refine gj_if_ne (pc' := 13) (tgt := 19) dX11_feud_10 (by decide) rfl (by omega) (fun c10 => ?_) (fun c10 => ?_)
  · first | have g10 := of_decide_eq_true c10 | have g10 := of_decide_eq_false c10 | skip
    obtain ⟨n, rfl⟩ : ∃ n : Nat, a = (n : Int) := ⟨a.toNat, by omega⟩
    obtain ⟨m, rfl⟩ : ∃ m : Nat, b = (m : Int) := ⟨b.toNat, by omega⟩
    have hM : MI (mG h) T S := hQ.mi (by omega)
    obtain ⟨hA2, hT, hS⟩ := id hM
    have h3 := hT.2.2.2.1
    have h4 : T 4 ≤ 7 := hT.2.2.2.2.1
    have hd := hS.2.2.1
    have g19 := sv19 hT hS
    refine gj_iconst (pc' := 20) dX11_feud_19 rfl ?_
    refine gj_istore_n (pc' := 21) dX11_feud_20 rfl (by decide) ?_
    refine gj_iconst (pc' := 22) dX11_feud_21 rfl ?_
    refine gj_istore (pc' := 24) dX11_feud_22 rfl (by decide) ?_
    refine gJ_wk (gJ_for (L := fun k => [some (.ref 142), some (.int (zI (n : Int))), some (.int (zI (m : Int))), some (.int (zI (sN (fun b => if T (20 + 5 * b) = n ∧ sFor T S m b = true then tLe T S b else 0) k : Nat))), some (.int (zI (k : Int)))]) (T 4) (fun k hb_k ih_k => ?_) (0) (Nat.zero_le _)) ?_
    · have es : sN (fun b => if T (20 + 5 * b) = n ∧ sFor T S m b = true then tLe T S b else 0) (k + 1) = sN (fun b => if T (20 + 5 * b) = n ∧ sFor T S m b = true then tLe T S b else 0) k + (if T (20 + 5 * k) = n ∧ sFor T S m k = true then tLe T S k else 0) := rfl
      refine gj_iload (pc' := 26) dX11_feud_24 rfl rfl ?_
      refine gj_aload_n (pc' := 27) dX11_feud_26 rfl rfl ?_
      refine gf_X11_20 (pc' := 30) dX11_feud_27 rfl (by first | rfl | assumption) rfl ?_
      refine gj_iconst (pc' := 31) dX11_feud_30 rfl ?_
      refine gj_iald (pc' := 32) (j := 4) (by first | rfl | assumption) (by omega) (by omega) (by decide) dX11_feud_31 rfl ?_
      rw [hA2.1 4 (by omega)]
      refine gj_icmp_ge (pc' := 35) (tgt := 83) dX11_feud_32 (by decide) rfl (by omega) (fun c32 => ?_) (fun c32 => ?_)
      · refine gj_iload_n (pc' := 84) dX11_feud_83 rfl rfl ?_
        refine gj_iret rfl dX11_feud_84 ?_
        exact qM_g (by unfold aFeud; rw [if_pos (by omega)]; simp only [Int.toNat_natCast]; unfold sFeud; rw [show T 4 = k by omega])
      · refine gj_iload_n (pc' := 36) dX11_feud_35 rfl rfl ?_
        refine gj_aload_n (pc' := 37) dX11_feud_36 rfl rfl ?_
        refine gj_iload (pc' := 39) dX11_feud_37 rfl rfl ?_
        refine gr_X11_262 (pc' := 42) dX11_feud_39 rfl (m_isGone hA2 g19 (by omega)) rfl (by first | rfl | assumption) (by decide) rfl (Nat.le_of_ble_eq_true rfl) ?_
        first | refine gj_ifB_ne (pc' := 45) (tgt := 74) dX11_feud_42 (by decide) rfl (fun c42 => ?_) (fun c42 => ?_) | refine gj_if_ne (pc' := 45) (tgt := 74) dX11_feud_42 (by decide) rfl (by omega) (fun c42 => ?_) (fun c42 => ?_)
        · first | have g42 := of_decide_eq_true c42 | have g42 := of_decide_eq_false c42 | skip
          refine gj_iconst (pc' := 75) dX11_feud_74 rfl ?_
          refine gj_iadd (pc' := 76) dX11_feud_75 rfl ?_
          refine gj_istore_n (pc' := 77) dX11_feud_76 rfl (by decide) ?_
          refine gj_iinc (pc' := 80) dX11_feud_77 rfl rfl (by decide) ?_
          refine gj_goto (pc' := 24) dX11_feud_80 (by decide) ?_
          refine gJ_wk (ih_k (by omega)) ?_
          repeat' (first | exact True.intro | with_reducible exact rfl | refine And.intro ?_ ?_ | refine vI ?_ | refine vL ?_)
          all_goals first | omega | (rw [es]; first | (rw [if_pos ⟨by omega, by unfold sFor; rw [c42]; simp; omega⟩]; omega) | (rw [if_neg (by unfold sFor; rw [c42]; simp; intro q; omega)]; omega) | (rw [if_neg (by unfold sFor; rw [c42]; simp)]; omega) | (rw [if_neg (by omega)]; omega))
        · first | have g42 := of_decide_eq_true c42 | have g42 := of_decide_eq_false c42 | skip
          refine gj_aload_n (pc' := 46) dX11_feud_45 rfl rfl ?_
          refine gj_iload (pc' := 48) dX11_feud_46 rfl rfl ?_
          refine gr_X11_243 (pc' := 51) dX11_feud_48 rfl (m_fromOf hA2 (by omega)) rfl (by first | rfl | assumption) (by decide) rfl (Nat.le_of_ble_eq_true rfl) ?_
          refine gj_iload_n (pc' := 52) dX11_feud_51 rfl rfl ?_
          refine gj_icmp_ne (pc' := 55) (tgt := 74) dX11_feud_52 (by decide) rfl (by have := hT.2.2.2.2.2.2.2.2.1 k (by omega); omega) (fun c52 => ?_) (fun c52 => ?_)
          · refine gj_iconst (pc' := 75) dX11_feud_74 rfl ?_
            refine gj_iadd (pc' := 76) dX11_feud_75 rfl ?_
            refine gj_istore_n (pc' := 77) dX11_feud_76 rfl (by decide) ?_
            refine gj_iinc (pc' := 80) dX11_feud_77 rfl rfl (by decide) ?_
            refine gj_goto (pc' := 24) dX11_feud_80 (by decide) ?_
            refine gJ_wk (ih_k (by omega)) ?_
            repeat' (first | exact True.intro | with_reducible exact rfl | refine And.intro ?_ ?_ | refine vI ?_ | refine vL ?_)
            all_goals first | omega | (rw [es]; first | (rw [if_pos ⟨by omega, by unfold sFor; rw [c42]; simp; omega⟩]; omega) | (rw [if_neg (by unfold sFor; rw [c42]; simp; intro q; omega)]; omega) | (rw [if_neg (by unfold sFor; rw [c42]; simp)]; omega) | (rw [if_neg (by omega)]; omega))
          · refine gj_aload_n (pc' := 56) dX11_feud_55 rfl rfl ?_
            refine gj_iload (pc' := 58) dX11_feud_56 rfl rfl ?_
            refine gr_X11_237 (pc' := 61) dX11_feud_58 rfl (m_forOf hA2 (by omega)) rfl (by first | rfl | assumption) (by decide) rfl (Nat.le_of_ble_eq_true rfl) ?_
            refine gj_iload_n (pc' := 62) dX11_feud_61 rfl rfl ?_
            refine gj_icmp_ne (pc' := 65) (tgt := 74) dX11_feud_62 (by decide) rfl (by have := hT.2.2.2.2.2.2.2.2.1 k (by omega); omega) (fun c62 => ?_) (fun c62 => ?_)
            · refine gj_iconst (pc' := 75) dX11_feud_74 rfl ?_
              refine gj_iadd (pc' := 76) dX11_feud_75 rfl ?_
              refine gj_istore_n (pc' := 77) dX11_feud_76 rfl (by decide) ?_
              refine gj_iinc (pc' := 80) dX11_feud_77 rfl rfl (by decide) ?_
              refine gj_goto (pc' := 24) dX11_feud_80 (by decide) ?_
              refine gJ_wk (ih_k (by omega)) ?_
              repeat' (first | exact True.intro | with_reducible exact rfl | refine And.intro ?_ ?_ | refine vI ?_ | refine vL ?_)
              all_goals first | omega | (rw [es]; first | (rw [if_pos ⟨by omega, by unfold sFor; rw [c42]; simp; omega⟩]; omega) | (rw [if_neg (by unfold sFor; rw [c42]; simp; intro q; omega)]; omega) | (rw [if_neg (by unfold sFor; rw [c42]; simp)]; omega) | (rw [if_neg (by omega)]; omega))
            · refine gj_aload_n (pc' := 66) dX11_feud_65 rfl rfl ?_
              refine gj_iload (pc' := 68) dX11_feud_66 rfl rfl ?_
              refine gr_X11_274 (pc' := 71) dX11_feud_68 rfl (m_leftOf hM (by omega)) rfl (by first | rfl | assumption) (by decide) rfl (Nat.le_of_ble_eq_true rfl) ?_
              refine gj_goto (pc' := 75) dX11_feud_71 (by decide) ?_
              refine gj_iadd (pc' := 76) dX11_feud_75 rfl ?_
              refine gj_istore_n (pc' := 77) dX11_feud_76 rfl (by decide) ?_
              refine gj_iinc (pc' := 80) dX11_feud_77 rfl rfl (by decide) ?_
              refine gj_goto (pc' := 24) dX11_feud_80 (by decide) ?_
              refine gJ_wk (ih_k (by omega)) ?_
              repeat' (first | exact True.intro | with_reducible exact rfl | refine And.intro ?_ ?_ | refine vI ?_ | refine vL ?_)
              all_goals first | omega | (rw [es]; first | (rw [if_pos ⟨by omega, by unfold sFor; rw [c42]; simp; omega⟩]; omega) | (rw [if_neg (by unfold sFor; rw [c42]; simp; intro q; omega)]; omega) | (rw [if_neg (by unfold sFor; rw [c42]; simp)]; omega) | (rw [if_neg (by omega)]; omega))
    · repeat' (first | exact True.intro | with_reducible exact rfl | refine And.intro ?_ ?_ | refine vI ?_ | refine vL ?_)
      all_goals first | rfl | omega
  · first | have g10 := of_decide_eq_true c10 | have g10 := of_decide_eq_false c10 | skip
    refine gj_aload_n (pc' := 14) dX11_feud_13 rfl rfl ?_
    refine gj_iconst (pc' := 15) dX11_feud_14 rfl ?_
    refine gc_X11_156 (pc' := 18) dX11_feud_15 rfl (m_no) rfl (by first | rfl | assumption) (by decide) rfl (Nat.le_of_ble_eq_true rfl) (fun v9 h9 q9 => ?_)
    obtain ⟨rfl, rfl⟩ := q9
    show gJ _ _ _ _ _ _ _ (.int (zI (-1)) :: _) _ _
    refine gj_iret rfl dX11_feud_18 ?_
    first | exact qM_g (by unfold aFeud; (try simp only [Int.toNat_natCast]); repeat' (first | (exfalso; omega) | split | rfl | (congr 1; omega) | simp_all)) | exact qM_n (by unfold aFeud; (try simp only [Int.toNat_natCast]); repeat' (first | (exfalso; omega) | split | rfl | (congr 1; omega) | simp_all))
theorem m_quiet {h : gH} {T S : Nat → Nat} {a : Int} (hQ : mQ h T S) (ha : inB a) : gSp 12 yX11_quiet cX11_quiet 4 (some .int) [.ref 142, .int (zI a)] h (qM (aHo T a (fun n => (sN (fun k => if sSet T S n (S 20 + k) = 0 then 1 else 0) 61 : Nat))).1 (aHo T a (fun n => (sN (fun k => if sSet T S n (S 20 + k) = 0 then 1 else 0) 61 : Nat))).2 h) := by
  obtain ⟨hA, hH, hZ, -⟩ := id hQ
  have hH2 : (mG h).1 142 14 = bI (decide (T 3 ≠ 0)) := hH
  have ha2 := ha
  unfold inB at ha2
  refine gSp_of (by decide +kernel) (Nat.le_of_ble_eq_true rfl) ?_
  show gJ RX11 cX11_quiet 4 (some .int) _ 0 [some (.ref 142), some (.int (zI a)), none, none] [] _ _
  refine gj_aload_n (pc' := 1) dX11_quiet_0 rfl rfl ?_
  refine gc_X11_153 (pc' := 4) dX11_quiet_1 rfl (m_good) rfl (by first | rfl | assumption) (by decide) rfl (Nat.le_of_ble_eq_true rfl) (fun v9 h9 q9 => ?_)
  obtain ⟨rfl, rfl⟩ := q9
  show gJ _ _ _ _ _ _ _ [] _ _
  refine gj_aload_n (pc' := 5) dX11_quiet_4 rfl rfl ?_
  refine gj_iload_n (pc' := 6) dX11_quiet_5 rfl rfl ?_
  refine gr_X11_277 (pc' := 9) dX11_quiet_6 rfl (m_isHouseQ hQ.g ha) rfl (by first | rfl | assumption) (by decide) rfl (Nat.le_of_ble_eq_true rfl) ?_
  first | refine gj_ifB_ne (pc' := 12) (tgt := 18) dX11_quiet_9 (by decide) rfl (fun c9 => ?_) (fun c9 => ?_) | refine gj_if_ne (pc' := 12) (tgt := 18) dX11_quiet_9 (by decide) rfl (by omega) (fun c9 => ?_) (fun c9 => ?_)
  · first | have g9 := of_decide_eq_true c9 | have g9 := of_decide_eq_false c9 | skip
    obtain ⟨n, rfl⟩ : ∃ n : Nat, a = (n : Int) := ⟨a.toNat, by omega⟩
    have hM : MI (mG h) T S := hQ.mi (by omega)
    obtain ⟨hA2, hT, hS⟩ := id hM
    have h3 := hT.2.2.2.1
    have h4 : T 4 ≤ 7 := hT.2.2.2.2.1
    have hd := hS.2.2.1
    have g19 := sv19 hT hS
    refine gj_iconst (pc' := 19) dX11_quiet_18 rfl ?_
    refine gj_istore_n (pc' := 20) dX11_quiet_19 rfl (by decide) ?_
    refine gj_iconst (pc' := 21) dX11_quiet_20 rfl ?_
    refine gj_istore_n (pc' := 22) dX11_quiet_21 rfl (by decide) ?_
    refine gJ_wk (gJ_for (L := fun k => [some (.ref 142), some (.int (zI (n : Int))), some (.int (zI (sN (fun k => if sSet T S n (S 20 + k) = 0 then 1 else 0) k : Nat))), some (.int (zI (k : Int)))]) (61) (fun k hb_k ih_k => ?_) (0) (Nat.zero_le _)) ?_
    · have es : sN (fun k => if sSet T S n (S 20 + k) = 0 then 1 else 0) (k + 1) = sN (fun k => if sSet T S n (S 20 + k) = 0 then 1 else 0) k + (if sSet T S n (S 20 + k) = 0 then 1 else 0) := rfl
      have lb : sSet T S n (S 20 + k) < 256 := pc_lt h4
      refine gj_iload_n (pc' := 23) dX11_quiet_22 rfl rfl ?_
      refine gj_bipush (pc' := 25) dX11_quiet_23 rfl (by decide) ?_
      refine gj_icmp_gt (pc' := 28) (tgt := 59) dX11_quiet_25 (by decide) rfl (by omega) (fun c25 => ?_) (fun c25 => ?_)
      · refine gj_iload_n (pc' := 60) dX11_quiet_59 rfl rfl ?_
        refine gj_iret rfl dX11_quiet_60 ?_
        exact qM_g (by unfold aHo; rw [if_pos (by omega)]; simp only [Int.toNat_natCast]; rw [show 61 = k by omega])
      · refine gj_iload_n (pc' := 29) dX11_quiet_28 rfl rfl ?_
        refine gj_aload_n (pc' := 30) dX11_quiet_29 rfl rfl ?_
        refine gj_iload_n (pc' := 31) dX11_quiet_30 rfl rfl ?_
        refine gj_aload_n (pc' := 32) dX11_quiet_31 rfl rfl ?_
        refine gf_X11_26 (pc' := 35) dX11_quiet_32 rfl (by first | rfl | assumption) rfl ?_
        refine gj_bipush (pc' := 37) dX11_quiet_35 rfl (by decide) ?_
        refine gj_iald (pc' := 38) (j := 20) (by first | rfl | assumption) (by omega) (by omega) (by decide) dX11_quiet_37 rfl ?_
        rw [hA2.2 20 (by omega)]
        refine gj_iload_n (pc' := 39) dX11_quiet_38 rfl rfl ?_
        refine gj_iadd (pc' := 40) dX11_quiet_39 rfl ?_
        rw [show ((S 20 : Int) + (k : Int)) = ((S 20 + k : Nat) : Int) by omega]
        refine gr_X11_280 (pc' := 43) dX11_quiet_40 rfl (m_sitting hM (by omega) (by omega)) rfl (by first | rfl | assumption) (by decide) rfl (Nat.le_of_ble_eq_true rfl) ?_
        refine gj_if_ne (pc' := 46) (tgt := 50) dX11_quiet_43 (by decide) rfl (by omega) (fun c43 => ?_) (fun c43 => ?_)
        · first | have g43 := of_decide_eq_true c43 | have g43 := of_decide_eq_false c43 | skip
          refine gj_iconst (pc' := 51) dX11_quiet_50 rfl ?_
          refine gj_iadd (pc' := 52) dX11_quiet_51 rfl ?_
          refine gj_istore_n (pc' := 53) dX11_quiet_52 rfl (by decide) ?_
          refine gj_iinc (pc' := 56) dX11_quiet_53 rfl rfl (by decide) ?_
          refine gj_goto (pc' := 22) dX11_quiet_56 (by decide) ?_
          refine gJ_wk (ih_k (by omega)) ?_
          repeat' (first | exact True.intro | with_reducible exact rfl | refine And.intro ?_ ?_ | refine vI ?_ | refine vL ?_)
          all_goals first | omega | (rw [es]; first | rw [if_pos (by omega)]; omega | rw [if_neg (by omega)]; omega)
        · first | have g43 := of_decide_eq_true c43 | have g43 := of_decide_eq_false c43 | skip
          refine gj_iconst (pc' := 47) dX11_quiet_46 rfl ?_
          refine gj_goto (pc' := 51) dX11_quiet_47 (by decide) ?_
          refine gj_iadd (pc' := 52) dX11_quiet_51 rfl ?_
          refine gj_istore_n (pc' := 53) dX11_quiet_52 rfl (by decide) ?_
          refine gj_iinc (pc' := 56) dX11_quiet_53 rfl rfl (by decide) ?_
          refine gj_goto (pc' := 22) dX11_quiet_56 (by decide) ?_
          refine gJ_wk (ih_k (by omega)) ?_
          repeat' (first | exact True.intro | with_reducible exact rfl | refine And.intro ?_ ?_ | refine vI ?_ | refine vL ?_)
          all_goals first | omega | (rw [es]; first | rw [if_pos (by omega)]; omega | rw [if_neg (by omega)]; omega)
    · repeat' (first | exact True.intro | with_reducible exact rfl | refine And.intro ?_ ?_ | refine vI ?_ | refine vL ?_)
      all_goals first | rfl | omega
  · first | have g9 := of_decide_eq_true c9 | have g9 := of_decide_eq_false c9 | skip
    refine gj_aload_n (pc' := 13) dX11_quiet_12 rfl rfl ?_
    refine gj_iconst (pc' := 14) dX11_quiet_13 rfl ?_
    refine gc_X11_156 (pc' := 17) dX11_quiet_14 rfl (m_no) rfl (by first | rfl | assumption) (by decide) rfl (Nat.le_of_ble_eq_true rfl) (fun v9 h9 q9 => ?_)
    obtain ⟨rfl, rfl⟩ := q9
    show gJ _ _ _ _ _ _ _ (.int (zI (-1)) :: _) _ _
    refine gj_iret rfl dX11_quiet_17 ?_
    first | exact qM_g (by unfold aHo; (try simp only [Int.toNat_natCast]); repeat' (first | (exfalso; omega) | split | rfl | (congr 1; omega) | simp_all)) | exact qM_n (by unfold aHo; (try simp only [Int.toNat_natCast]); repeat' (first | (exfalso; omega) | split | rfl | (congr 1; omega) | simp_all))
