/-! the model: two houses, hawks, sets -/
theorem MS.seek {h h9 : gH} (r1 : h9.2 = (mG h).2) (r2 : ∀ o, o ≠ 142 → h9.1 o = (mG h).1 o) (r3 : ∀ k, k ≠ 33 → h9.1 142 k = (mG h).1 142 k) : MS h h9 := by
  obtain ⟨g1, g2, g3, g4⟩ := MS.good h
  exact ⟨r1.trans g1, fun o a a1 a2 a3 a4 a5 a6 => (r2 o a).trans (g2 o a a1 a2 a3 a4 a5 a6), fun k a b c => (r3 k (by omega)).trans (g3 k a b c), (r3 0 (by omega)).trans g4⟩
theorem hOf_le {hk a m : Nat} (hh : hk ≤ 100) (ha : a ≤ 7) (hm : m ≤ 7) : m ≤ a → chC a m * (100 - hk) ^ m * hk ^ (a - m) ≤ 90000000000000000 := by
  intro q
  have c1 : chC a m ≤ 100 := chC_le a ha m q m (Nat.le_refl m)
  have c2 : (100 - hk) ^ m * hk ^ (a - m) ≤ 100 ^ m * 100 ^ (a - m) := Nat.mul_le_mul (Nat.pow_le_pow_left (by omega) m) (Nat.pow_le_pow_left hh (a - m))
  rw [← Nat.pow_add, show m + (a - m) = a by omega] at c2
  have c3 : 100 ^ a ≤ 100 ^ 7 := Nat.pow_le_pow_right (by omega) ha
  have c4 : chC a m * ((100 - hk) ^ m * hk ^ (a - m)) ≤ 100 * 100 ^ 7 := Nat.mul_le_mul c1 (Nat.le_trans c2 c3)
  rw [Nat.mul_assoc]
  exact Nat.le_trans c4 (by decide +kernel)
theorem hMe_le {hk n : Nat} (hh : hk ≤ 100) (hn : n ≤ 8) : hMeS hk n n ≤ 90000000000000000 := by
  have b2 := p100 (v := 100) (k := n) (by omega) hn
  have := sN_le (f := fun k => (100 - hk) ^ (k + 1) * 100 ^ (n - (k + 1))) (c := 10000000000000000) (n := n) (fun k hk2 => by
    have c2 : (100 - hk) ^ (k + 1) * 100 ^ (n - (k + 1)) ≤ 100 ^ (k + 1) * 100 ^ (n - (k + 1)) := Nat.mul_le_mul (Nat.pow_le_pow_left (by omega) (k + 1)) (Nat.le_refl _)
    rw [← Nat.pow_add, show k + 1 + (n - (k + 1)) = n by omega] at c2
    exact Nat.le_trans c2 b2)
  unfold hMeS
  omega
/-- ways, as the model counts them -/
def cmM (c : Nat) (n : Nat) : Nat := fN (fun k x => x * (c - k) / (k + 1)) 1 n
theorem cmM_le : ∀ c, c ≤ 7 → ∀ k, k ≤ 7 → cmM c k ≤ 100 := by decide +kernel
theorem cmM_eq : ∀ c, c ≤ 7 → ∀ m, m ≤ c → cmM c m = chC c m := by decide +kernel
/-- a set without bits beyond another is no greater -/
theorem nWo_0 {m g : Nat} (h : nWo m g = 0) : m ≤ g := by
  refine Nat.le_of_testBit ?_
  intro i hi
  have := nWo_bit m g i
  rw [h, hi, Nat.zero_testBit] at this
  cases hg : g.testBit i with
  | true => rfl
  | false => rw [hg] at this; simp at this
theorem nPr_sub {T S : Nat → Nat} {k : Nat} (hk : k < 2 ^ T 4) : nWo k (nPr T S) = 0 ↔ k &&& S 19 = 0 := by
  have e : nWo k (nPr T S) = k &&& S 19 := by
    apply Nat.eq_of_testBit_eq
    intro i
    unfold nPr
    rw [nWo_bit, nWo_bit, Nat.testBit_two_pow_sub_one, Nat.testBit_and]
    cases hi : k.testBit i with
    | false => simp
    | true =>
      have : i < T 4 := by
        rcases Nat.lt_or_ge i (T 4) with q | q
        · exact q
        · rw [testBit_lt hk q] at hi; cases hi
      simp [this]
  rw [e]
theorem lBest_far {T S : Nat → Nat} {am co : Nat} : ∀ {n : Nat}, am ≤ n → lBest T S am co n = lBest T S am co am
  | 0, h => by rw [show am = 0 by omega]
  | n + 1, h => by
    by_cases q : am = n + 1
    · rw [q]
    · have ih := lBest_far (T := T) (S := S) (am := am) (co := co) (n := n) (by omega)
      show lStep T S am co (n + 1) (lBest T S am co n) = _
      unfold lStep
      rw [if_neg, ih]
      intro z
      have := nWo_0 z.1
      omega
theorem cBest_far {T S : Nat → Nat} {am many : Nat} : ∀ {n : Nat}, am + 1 ≤ n → cBest T S am many n = cBest T S am many (am + 1)
  | 0, h => by omega
  | n + 1, h => by
    by_cases q : am = n
    · rw [q]
    · have ih := cBest_far (T := T) (S := S) (am := am) (many := many) (n := n) (by omega)
      show cStep T S am many n (cBest T S am many n) = _
      unfold cStep
      rw [if_neg, ih]
      intro z
      have := nWo_0 z.1
      omega

theorem m_sends {h : gH} {T S : Nat → Nat} {b : Int} {p q o : Bool} (hQ : mQ h T S) (hb : inB b) : gSp 12 yX11_sends cX11_sends 6 (some .int) [.ref 142, .int (zI b), .int (zI (bI p)), .int (zI (bI q)), .int (zI (bI o))] h (qM (aSends T b p q o).1 (aSends T b p q o).2 h) := by
  obtain ⟨hA, hH, hZ, -⟩ := id hQ
  have hH2 : (mG h).1 142 14 = bI (decide (T 3 ≠ 0)) := hH
  have hb2 := hb
  unfold inB at hb2
  refine gSp_of (by decide +kernel) (Nat.le_of_ble_eq_true rfl) ?_
  show gJ RX11 cX11_sends 6 (some .int) _ 0 [some (.ref 142), some (.int (zI b)), some (.int (zI (bI p))), some (.int (zI (bI q))), some (.int (zI (bI o))), none] [] _ _
  refine gj_aload_n (pc' := 1) dX11_sends_0 rfl rfl ?_
  refine gc_X11_153 (pc' := 4) dX11_sends_1 rfl (m_good) rfl (by first | rfl | assumption) (by decide) rfl (Nat.le_of_ble_eq_true rfl) (fun v9 h9 q9 => ?_)
  obtain ⟨rfl, rfl⟩ := q9
  show gJ _ _ _ _ _ _ _ [] _ _
  refine gj_aload_n (pc' := 5) dX11_sends_4 rfl rfl ?_
  refine gj_aload_n (pc' := 6) dX11_sends_5 rfl rfl ?_
  refine gf_X11_166 (pc' := 9) dX11_sends_6 rfl (by first | rfl | assumption) rfl ?_
  rw [hH2]
  refine gj_iload_n (pc' := 10) dX11_sends_9 rfl rfl ?_
  refine gj_bipush (pc' := 12) dX11_sends_10 rfl (by decide) ?_
  refine gr_X11_298 (pc' := 15) dX11_sends_12 rfl (m_why hb2 (by omega)) rfl (by first | rfl | assumption) (by decide) rfl (Nat.le_of_ble_eq_true rfl) ?_
  obtain ⟨w, hw, hw2⟩ := why_cs (C := T 3 ≠ 0) (b := b) (m := 9)
  rw [hw]
  refine gj_istore (pc' := 17) dX11_sends_15 rfl (by decide) ?_
  refine gj_iload (pc' := 19) dX11_sends_17 rfl rfl ?_
  refine gj_if_eq (pc' := 22) (tgt := 31) dX11_sends_19 (by decide) rfl (by omega) (fun c19 => ?_) (fun c19 => ?_)
  · first | have g19 := of_decide_eq_true c19 | have g19 := of_decide_eq_false c19 | skip
    obtain ⟨m, rfl⟩ : ∃ m : Nat, b = (m : Int) := ⟨b.toNat, by omega⟩
    have hM : MI (mG h) T S := hQ.mi (by omega)
    obtain ⟨hA2, hT, hS⟩ := id hM
    have h3 := hT.2.2.2.1
    have h4 : T 4 ≤ 7 := hT.2.2.2.2.1
    have hd := hS.2.2.1
    have g19 := sv19 hT hS
    refine gj_iload (pc' := 33) dX11_sends_31 rfl rfl ?_
    first | refine gj_ifB_eq (pc' := 36) (tgt := 45) dX11_sends_33 (by decide) rfl (fun c33 => ?_) (fun c33 => ?_) | refine gj_if_eq (pc' := 36) (tgt := 45) dX11_sends_33 (by decide) rfl (by omega) (fun c33 => ?_) (fun c33 => ?_)
    · first | have g33 := of_decide_eq_true c33 | have g33 := of_decide_eq_false c33 | skip
      refine gj_iload_n (pc' := 46) dX11_sends_45 rfl rfl ?_
      refine gj_iload_n (pc' := 47) dX11_sends_46 rfl rfl ?_
      refine gj_iload_n (pc' := 48) dX11_sends_47 rfl rfl ?_
      refine gr_X11_370 (pc' := 51) dX11_sends_48 rfl (m_hasBy) rfl (by decide) rfl (Nat.le_of_ble_eq_true rfl) ?_
      refine gj_iret rfl dX11_sends_51 ?_
      first | exact qM_g (by unfold aSends aToN; (try simp only [Int.toNat_natCast]); repeat' (first | (exfalso; omega) | split | rfl | (congr 1; omega) | simp_all)) | exact qM_n (by unfold aSends aToN; (try simp only [Int.toNat_natCast]); repeat' (first | (exfalso; omega) | split | rfl | (congr 1; omega) | simp_all))
    · first | have g33 := of_decide_eq_true c33 | have g33 := of_decide_eq_false c33 | skip
      refine gj_iload_n (pc' := 37) dX11_sends_36 rfl rfl ?_
      refine gj_iload_n (pc' := 38) dX11_sends_37 rfl rfl ?_
      refine gj_iload_n (pc' := 39) dX11_sends_38 rfl rfl ?_
      refine gr_X11_370 (pc' := 42) dX11_sends_39 rfl (m_hasBy) rfl (by decide) rfl (Nat.le_of_ble_eq_true rfl) ?_
      refine gj_goto (pc' := 51) dX11_sends_42 (by decide) ?_
      refine gj_iret rfl dX11_sends_51 ?_
      first | exact qM_g (by unfold aSends aToN; (try simp only [Int.toNat_natCast]); repeat' (first | (exfalso; omega) | split | rfl | (congr 1; omega) | simp_all)) | exact qM_n (by unfold aSends aToN; (try simp only [Int.toNat_natCast]); repeat' (first | (exfalso; omega) | split | rfl | (congr 1; omega) | simp_all))
  · first | have g19 := of_decide_eq_true c19 | have g19 := of_decide_eq_false c19 | skip
    refine gj_aload_n (pc' := 23) dX11_sends_22 rfl rfl ?_
    refine gj_iload (pc' := 25) dX11_sends_23 rfl rfl ?_
    refine gc_X11_156 (pc' := 28) dX11_sends_25 rfl (m_no) rfl (by first | rfl | assumption) (by decide) rfl (Nat.le_of_ble_eq_true rfl) (fun v9 h9 q9 => ?_)
    obtain ⟨rfl, rfl⟩ := q9
    show gJ _ _ _ _ _ _ _ (.int (zI (-1)) :: _) _ _
    refine gj_goto (pc' := 51) dX11_sends_28 (by decide) ?_
    refine gj_iret rfl dX11_sends_51 ?_
    first | exact qM_g (by unfold aSends aToN; (try simp only [Int.toNat_natCast]); repeat' (first | (exfalso; omega) | split | rfl | (congr 1; omega) | simp_all)) | exact qM_n (by unfold aSends aToN; (try simp only [Int.toNat_natCast]); repeat' (first | (exfalso; omega) | split | rfl | (congr 1; omega) | simp_all))
theorem m_rests {h : gH} {T S : Nat → Nat} {b : Int} (hQ : mQ h T S) (hb : inB b) : gSp 12 yX11_rests cX11_rests 3 (some .int) [.ref 142, .int (zI b)] h (qM (aRests T b).1 (aRests T b).2 h) := by
  obtain ⟨hA, hH, hZ, -⟩ := id hQ
  have hH2 : (mG h).1 142 14 = bI (decide (T 3 ≠ 0)) := hH
  have hb2 := hb
  unfold inB at hb2
  refine gSp_of (by decide +kernel) (Nat.le_of_ble_eq_true rfl) ?_
  show gJ RX11 cX11_rests 3 (some .int) _ 0 [some (.ref 142), some (.int (zI b)), none] [] _ _
  refine gj_aload_n (pc' := 1) dX11_rests_0 rfl rfl ?_
  refine gc_X11_153 (pc' := 4) dX11_rests_1 rfl (m_good) rfl (by first | rfl | assumption) (by decide) rfl (Nat.le_of_ble_eq_true rfl) (fun v9 h9 q9 => ?_)
  obtain ⟨rfl, rfl⟩ := q9
  show gJ _ _ _ _ _ _ _ [] _ _
  refine gj_aload_n (pc' := 5) dX11_rests_4 rfl rfl ?_
  refine gj_aload_n (pc' := 6) dX11_rests_5 rfl rfl ?_
  refine gf_X11_166 (pc' := 9) dX11_rests_6 rfl (by first | rfl | assumption) rfl ?_
  rw [hH2]
  refine gj_iload_n (pc' := 10) dX11_rests_9 rfl rfl ?_
  refine gj_bipush (pc' := 12) dX11_rests_10 rfl (by decide) ?_
  refine gr_X11_298 (pc' := 15) dX11_rests_12 rfl (m_why hb2 (by omega)) rfl (by first | rfl | assumption) (by decide) rfl (Nat.le_of_ble_eq_true rfl) ?_
  obtain ⟨w, hw, hw2⟩ := why_cs (C := T 3 ≠ 0) (b := b) (m := 9)
  rw [hw]
  refine gj_istore_n (pc' := 16) dX11_rests_15 rfl (by decide) ?_
  refine gj_iload_n (pc' := 17) dX11_rests_16 rfl rfl ?_
  refine gj_if_eq (pc' := 20) (tgt := 28) dX11_rests_17 (by decide) rfl (by omega) (fun c17 => ?_) (fun c17 => ?_)
  · first | have g17 := of_decide_eq_true c17 | have g17 := of_decide_eq_false c17 | skip
    obtain ⟨m, rfl⟩ : ∃ m : Nat, b = (m : Int) := ⟨b.toNat, by omega⟩
    have hM : MI (mG h) T S := hQ.mi (by omega)
    obtain ⟨hA2, hT, hS⟩ := id hM
    have h3 := hT.2.2.2.1
    have h4 : T 4 ≤ 7 := hT.2.2.2.2.1
    have hd := hS.2.2.1
    have g19 := sv19 hT hS
    refine gj_aload_n (pc' := 29) dX11_rests_28 rfl rfl ?_
    refine gj_iload_n (pc' := 30) dX11_rests_29 rfl rfl ?_
    refine gc_X11_381 (pc' := 33) dX11_rests_30 rfl (m_seekRests (w := (m : Int)) (by omega)) rfl (by first | rfl | assumption) (by decide) rfl (Nat.le_of_ble_eq_true rfl) (fun v9 h9 q9 => ?_)
    obtain ⟨rfl, r1, r2, r3, r4⟩ := q9
    show gJ _ _ _ _ _ _ _ [.int (zI _)] _ _
    refine gj_iret rfl dX11_rests_33 ?_
    first | exact qM_i (tr := 0) (by unfold aRests aToN; rw [if_pos (by omega), if_pos (by omega)]; (try simp only [Int.toNat_natCast])) (MS.seek r1 r2 r3) (by rw [r3 11 (by omega)]; rfl) | exact qM_n (by unfold aRests aToN; (try simp only [Int.toNat_natCast]); repeat' (first | (exfalso; omega) | split | rfl | (congr 1; omega) | simp_all))
  · first | have g17 := of_decide_eq_true c17 | have g17 := of_decide_eq_false c17 | skip
    refine gj_aload_n (pc' := 21) dX11_rests_20 rfl rfl ?_
    refine gj_iload_n (pc' := 22) dX11_rests_21 rfl rfl ?_
    refine gc_X11_156 (pc' := 25) dX11_rests_22 rfl (m_no) rfl (by first | rfl | assumption) (by decide) rfl (Nat.le_of_ble_eq_true rfl) (fun v9 h9 q9 => ?_)
    obtain ⟨rfl, rfl⟩ := q9
    show gJ _ _ _ _ _ _ _ (.int (zI (-1)) :: _) _ _
    refine gj_goto (pc' := 33) dX11_rests_25 (by decide) ?_
    refine gj_iret rfl dX11_rests_33 ?_
    first | exact qM_i (tr := 0) (by unfold aRests aToN; rw [if_pos (by omega), if_pos (by omega)]; (try simp only [Int.toNat_natCast])) (MS.seek r1 r2 r3) (by rw [r3 11 (by omega)]; rfl) | exact qM_n (by unfold aRests aToN; (try simp only [Int.toNat_natCast]); repeat' (first | (exfalso; omega) | split | rfl | (congr 1; omega) | simp_all))
theorem m_rest {h : gH} {T S : Nat → Nat} {b : Int} (hQ : mQ h T S) (hb : inB b) : gSp 12 yX11_rest cX11_rest 3 (some .int) [.ref 142, .int (zI b)] h (qM (aRest T b).1 (aRest T b).2 h) := by
  obtain ⟨hA, hH, hZ, -⟩ := id hQ
  have hH2 : (mG h).1 142 14 = bI (decide (T 3 ≠ 0)) := hH
  have hb2 := hb
  unfold inB at hb2
  refine gSp_of (by decide +kernel) (Nat.le_of_ble_eq_true rfl) ?_
  show gJ RX11 cX11_rest 3 (some .int) _ 0 [some (.ref 142), some (.int (zI b)), none] [] _ _
  refine gj_aload_n (pc' := 1) dX11_rest_0 rfl rfl ?_
  refine gc_X11_153 (pc' := 4) dX11_rest_1 rfl (m_good) rfl (by first | rfl | assumption) (by decide) rfl (Nat.le_of_ble_eq_true rfl) (fun v9 h9 q9 => ?_)
  obtain ⟨rfl, rfl⟩ := q9
  show gJ _ _ _ _ _ _ _ [] _ _
  refine gj_aload_n (pc' := 5) dX11_rest_4 rfl rfl ?_
  refine gj_aload_n (pc' := 6) dX11_rest_5 rfl rfl ?_
  refine gf_X11_166 (pc' := 9) dX11_rest_6 rfl (by first | rfl | assumption) rfl ?_
  rw [hH2]
  refine gj_iload_n (pc' := 10) dX11_rest_9 rfl rfl ?_
  refine gj_bipush (pc' := 12) dX11_rest_10 rfl (by decide) ?_
  refine gr_X11_298 (pc' := 15) dX11_rest_12 rfl (m_why hb2 (by omega)) rfl (by first | rfl | assumption) (by decide) rfl (Nat.le_of_ble_eq_true rfl) ?_
  obtain ⟨w, hw, hw2⟩ := why_cs (C := T 3 ≠ 0) (b := b) (m := 9)
  rw [hw]
  refine gj_istore_n (pc' := 16) dX11_rest_15 rfl (by decide) ?_
  refine gj_iload_n (pc' := 17) dX11_rest_16 rfl rfl ?_
  refine gj_if_eq (pc' := 20) (tgt := 26) dX11_rest_17 (by decide) rfl (by omega) (fun c17 => ?_) (fun c17 => ?_)
  · first | have g17 := of_decide_eq_true c17 | have g17 := of_decide_eq_false c17 | skip
    obtain ⟨m, rfl⟩ : ∃ m : Nat, b = (m : Int) := ⟨b.toNat, by omega⟩
    have hM : MI (mG h) T S := hQ.mi (by omega)
    obtain ⟨hA2, hT, hS⟩ := id hM
    have h3 := hT.2.2.2.1
    have h4 : T 4 ≤ 7 := hT.2.2.2.2.1
    have hd := hS.2.2.1
    have g19 := sv19 hT hS
    refine gj_aload_n (pc' := 27) dX11_rest_26 rfl rfl ?_
    refine gj_iload_n (pc' := 28) dX11_rest_27 rfl rfl ?_
    refine gc_X11_381 (pc' := 31) dX11_rest_28 rfl (m_seekRests (w := (m : Int)) (by omega)) rfl (by first | rfl | assumption) (by decide) rfl (Nat.le_of_ble_eq_true rfl) (fun v9 h9 q9 => ?_)
    obtain ⟨rfl, r1, r2, r3, r4⟩ := q9
    show gJ _ _ _ _ _ _ _ [.int (zI _)] _ _
    refine gj_pop (pc' := 32) dX11_rest_31 rfl rfl ?_
    refine gj_aload_n (pc' := 33) dX11_rest_32 rfl rfl ?_
    refine gf_X11_374 (pc' := 36) dX11_rest_33 rfl (by first | rfl | assumption) rfl ?_
    rw [r4]
    refine gj_iret rfl dX11_rest_36 ?_
    exact qM_i (tr := 0) (by unfold aRest aToN; rw [if_pos (by omega), if_pos (by omega)]; simp only [Int.toNat_natCast]) (MS.seek r1 r2 r3) (by rw [r3 11 (by omega)]; rfl)
  · first | have g17 := of_decide_eq_true c17 | have g17 := of_decide_eq_false c17 | skip
    refine gj_aload_n (pc' := 21) dX11_rest_20 rfl rfl ?_
    refine gj_iload_n (pc' := 22) dX11_rest_21 rfl rfl ?_
    refine gc_X11_156 (pc' := 25) dX11_rest_22 rfl (m_no) rfl (by first | rfl | assumption) (by decide) rfl (Nat.le_of_ble_eq_true rfl) (fun v9 h9 q9 => ?_)
    obtain ⟨rfl, rfl⟩ := q9
    show gJ _ _ _ _ _ _ _ (.int (zI (-1)) :: _) _ _
    refine gj_iret rfl dX11_rest_25 ?_
    first | exact qM_g (by unfold aRest aToN; (try simp only [Int.toNat_natCast]); repeat' (first | (exfalso; omega) | split | rfl | (congr 1; omega) | simp_all)) | exact qM_n (by unfold aRest aToN; (try simp only [Int.toNat_natCast]); repeat' (first | (exfalso; omega) | split | rfl | (congr 1; omega) | simp_all))
theorem m_safe {h : gH} {T S : Nat → Nat} {a b : Int} {l : Bool} (hQ : mQ h T S) (ha : inB a) (hb : inB b) : gSp 12 yX11_safe cX11_safe 5 (some .long) [.ref 142, .int (zI a), .int (zI b), .int (zI (bI l))] h (qML (aSafe T S a b l).1 (aSafe T S a b l).2 h) := by
  obtain ⟨hA, hH, hZ, -⟩ := id hQ
  have hH2 : (mG h).1 142 14 = bI (decide (T 3 ≠ 0)) := hH
  have ha2 := ha
  unfold inB at ha2
  have hb2 := hb
  unfold inB at hb2
  refine gSp_of (by decide +kernel) (Nat.le_of_ble_eq_true rfl) ?_
  show gJ RX11 cX11_safe 5 (some .long) _ 0 [some (.ref 142), some (.int (zI a)), some (.int (zI b)), some (.int (zI (bI l))), none] [] _ _
  refine gj_aload_n (pc' := 1) dX11_safe_0 rfl rfl ?_
  refine gc_X11_153 (pc' := 4) dX11_safe_1 rfl (m_good) rfl (by first | rfl | assumption) (by decide) rfl (Nat.le_of_ble_eq_true rfl) (fun v9 h9 q9 => ?_)
  obtain ⟨rfl, rfl⟩ := q9
  show gJ _ _ _ _ _ _ _ [] _ _
  refine gj_aload_n (pc' := 5) dX11_safe_4 rfl rfl ?_
  refine gj_aload_n (pc' := 6) dX11_safe_5 rfl rfl ?_
  refine gj_iload_n (pc' := 7) dX11_safe_6 rfl rfl ?_
  refine gr_X11_286 (pc' := 10) dX11_safe_7 rfl (m_isBirdQ hQ.g ha) rfl (by first | rfl | assumption) (by decide) rfl (Nat.le_of_ble_eq_true rfl) ?_
  refine gj_iload_n (pc' := 11) dX11_safe_10 rfl rfl ?_
  refine gj_bipush (pc' := 13) dX11_safe_11 rfl (by decide) ?_
  refine gr_X11_298 (pc' := 16) dX11_safe_13 rfl (m_why hb2 (by omega)) rfl (by first | rfl | assumption) (by decide) rfl (Nat.le_of_ble_eq_true rfl) ?_
  obtain ⟨w, hw, hw2⟩ := why_cs (C := 0 ≤ a ∧ a < (T 4 : Int)) (b := b) (m := 8)
  rw [hw]
  refine gj_istore (pc' := 18) dX11_safe_16 rfl (by decide) ?_
  refine gj_iload (pc' := 20) dX11_safe_18 rfl rfl ?_
  refine gj_if_ne (pc' := 23) (tgt := 42) dX11_safe_20 (by decide) rfl (by omega) (fun c20 => ?_) (fun c20 => ?_)
  · first | have g20 := of_decide_eq_true c20 | have g20 := of_decide_eq_false c20 | skip
    refine gj_iload (pc' := 44) dX11_safe_42 rfl rfl ?_
    refine gj_if_eq (pc' := 47) (tgt := 57) dX11_safe_44 (by decide) rfl (by omega) (fun c44 => ?_) (fun c44 => ?_)
    · exfalso; omega
    · first | have g44 := of_decide_eq_true c44 | have g44 := of_decide_eq_false c44 | skip
      refine gj_aload_n (pc' := 48) dX11_safe_47 rfl rfl ?_
      refine gj_iload (pc' := 50) dX11_safe_48 rfl rfl ?_
      refine gc_X11_156 (pc' := 53) dX11_safe_50 rfl (m_no) rfl (by first | rfl | assumption) (by decide) rfl (Nat.le_of_ble_eq_true rfl) (fun v9 h9 q9 => ?_)
      obtain ⟨rfl, rfl⟩ := q9
      show gJ _ _ _ _ _ _ _ (.int (zI (-1)) :: _) _ _
      refine gj_i2l (pc' := 54) dX11_safe_53 rfl (by omega) ?_
      refine gj_goto (pc' := 82) dX11_safe_54 (by decide) ?_
      refine gj_lret rfl dX11_safe_82 ?_
      first | exact qML_g (by unfold aSafe; (try simp only [Int.toNat_natCast]); repeat' (first | (exfalso; omega) | split | rfl | (congr 1; omega) | simp_all)) | exact qML_n (by unfold aSafe; (try simp only [Int.toNat_natCast]); repeat' (first | (exfalso; omega) | split | rfl | (congr 1; omega) | simp_all))
  · first | have g20 := of_decide_eq_true c20 | have g20 := of_decide_eq_false c20 | skip
    obtain ⟨n, rfl⟩ : ∃ n : Nat, a = (n : Int) := ⟨a.toNat, by omega⟩
    obtain ⟨m, rfl⟩ : ∃ m : Nat, b = (m : Int) := ⟨b.toNat, by omega⟩
    have hM : MI (mG h) T S := hQ.mi (by omega)
    obtain ⟨hA2, hT, hS⟩ := id hM
    have h3 := hT.2.2.2.1
    have h4 : T 4 ≤ 7 := hT.2.2.2.2.1
    have hd := hS.2.2.1
    have g19 := sv19 hT hS
    refine gj_aload_n (pc' := 24) dX11_safe_23 rfl rfl ?_
    refine gj_iload_n (pc' := 25) dX11_safe_24 rfl rfl ?_
    refine gj_aload_n (pc' := 26) dX11_safe_25 rfl rfl ?_
    refine gf_X11_26 (pc' := 29) dX11_safe_26 rfl (by first | rfl | assumption) rfl ?_
    refine gj_bipush (pc' := 31) dX11_safe_29 rfl (by decide) ?_
    refine gj_iald (pc' := 32) (j := 20) (by first | rfl | assumption) (by omega) (by omega) (by decide) dX11_safe_31 rfl ?_
    rw [hA2.2 20 (by omega)]
    refine gr_X11_268 (pc' := 35) dX11_safe_32 rfl (m_whereOn hM (by omega) (by omega)) rfl (by first | rfl | assumption) (by decide) rfl (Nat.le_of_ble_eq_true rfl) ?_
    refine gj_iconst (pc' := 36) dX11_safe_35 rfl ?_
    refine gj_icmp_eq (pc' := 39) (tgt := 42) dX11_safe_36 (by decide) rfl (by have hl : sWh T S n (S 20) ≤ 3 := (by unfold sWh; repeat' (first | omega | split)); omega) (fun c36 => ?_) (fun c36 => ?_)
    · refine gj_iload (pc' := 44) dX11_safe_42 rfl rfl ?_
      refine gj_if_eq (pc' := 47) (tgt := 57) dX11_safe_44 (by decide) rfl (by omega) (fun c44 => ?_) (fun c44 => ?_)
      · first | have g44 := of_decide_eq_true c44 | have g44 := of_decide_eq_false c44 | skip
        have b1 := p100 (v := 100 - T 1) (k := m) (by omega) (by omega); have b2 := p100 (v := 100) (k := m) (by omega) (by omega)
        refine gj_bipush (pc' := 59) dX11_safe_57 rfl (by decide) ?_
        refine gj_aload_n (pc' := 60) dX11_safe_59 rfl rfl ?_
        refine gf_X11_20 (pc' := 63) dX11_safe_60 rfl (by first | rfl | assumption) rfl ?_
        refine gj_iconst (pc' := 64) dX11_safe_63 rfl ?_
        refine gj_iald (pc' := 65) (j := 1) (by first | rfl | assumption) (by omega) (by omega) (by decide) dX11_safe_64 rfl ?_
        rw [hA2.1 1 (by omega)]
        refine gj_isub (pc' := 66) dX11_safe_65 rfl ?_
        rw [show ((100 : Int) - (T 1 : Int)) = ((100 - T 1 : Nat) : Int) by have := hT.2.1; omega]
        refine gj_i2l (pc' := 67) dX11_safe_66 rfl (by omega) ?_
        refine gj_iload_n (pc' := 68) dX11_safe_67 rfl rfl ?_
        refine gr_X11_384 (pc' := 71) dX11_safe_68 rfl (m_power (v := 100 - T 1) (by omega)) rfl (by decide) rfl (Nat.le_of_ble_eq_true rfl) ?_
        refine gj_ldc2 (z := 100) (pc' := 74) dX11_safe_71 rfl (gtb_at 1849 (by decide +kernel) rfl) ?_
        refine gj_iload_n (pc' := 75) dX11_safe_74 rfl rfl ?_
        refine gr_X11_384 (pc' := 78) dX11_safe_75 rfl (m_power (v := 100) (by omega)) rfl (by decide) rfl (Nat.le_of_ble_eq_true rfl) ?_
        refine gj_iload_n (pc' := 79) dX11_safe_78 rfl rfl ?_
        refine gr_X11_390 (pc' := 82) dX11_safe_79 rfl (m_lowest (by omega) (by omega) (one_le_p m)) rfl (by decide) rfl (Nat.le_of_ble_eq_true rfl) ?_
        refine gj_lret rfl dX11_safe_82 ?_
        first | exact qML_g (by unfold aSafe; (try simp only [Int.toNat_natCast]); repeat' (first | (exfalso; omega) | split | rfl | (congr 1; omega) | simp_all)) | exact qML_n (by unfold aSafe; (try simp only [Int.toNat_natCast]); repeat' (first | (exfalso; omega) | split | rfl | (congr 1; omega) | simp_all))
      · first | have g44 := of_decide_eq_true c44 | have g44 := of_decide_eq_false c44 | skip
        refine gj_aload_n (pc' := 48) dX11_safe_47 rfl rfl ?_
        refine gj_iload (pc' := 50) dX11_safe_48 rfl rfl ?_
        refine gc_X11_156 (pc' := 53) dX11_safe_50 rfl (m_no) rfl (by first | rfl | assumption) (by decide) rfl (Nat.le_of_ble_eq_true rfl) (fun v9 h9 q9 => ?_)
        obtain ⟨rfl, rfl⟩ := q9
        show gJ _ _ _ _ _ _ _ (.int (zI (-1)) :: _) _ _
        refine gj_i2l (pc' := 54) dX11_safe_53 rfl (by omega) ?_
        refine gj_goto (pc' := 82) dX11_safe_54 (by decide) ?_
        refine gj_lret rfl dX11_safe_82 ?_
        first | exact qML_g (by unfold aSafe; (try simp only [Int.toNat_natCast]); repeat' (first | (exfalso; omega) | split | rfl | (congr 1; omega) | simp_all)) | exact qML_n (by unfold aSafe; (try simp only [Int.toNat_natCast]); repeat' (first | (exfalso; omega) | split | rfl | (congr 1; omega) | simp_all))
    · refine gj_iconst (pc' := 40) dX11_safe_39 rfl ?_
      refine gj_istore (pc' := 42) dX11_safe_40 rfl (by decide) ?_
      refine gj_iload (pc' := 44) dX11_safe_42 rfl rfl ?_
      refine gj_if_eq (pc' := 47) (tgt := 57) dX11_safe_44 (by decide) rfl (by omega) (fun c44 => ?_) (fun c44 => ?_)
      · first | have g44 := of_decide_eq_true c44 | have g44 := of_decide_eq_false c44 | skip
        have b1 := p100 (v := 100 - T 1) (k := m) (by omega) (by omega); have b2 := p100 (v := 100) (k := m) (by omega) (by omega)
        refine gj_bipush (pc' := 59) dX11_safe_57 rfl (by decide) ?_
        refine gj_aload_n (pc' := 60) dX11_safe_59 rfl rfl ?_
        refine gf_X11_20 (pc' := 63) dX11_safe_60 rfl (by first | rfl | assumption) rfl ?_
        refine gj_iconst (pc' := 64) dX11_safe_63 rfl ?_
        refine gj_iald (pc' := 65) (j := 1) (by first | rfl | assumption) (by omega) (by omega) (by decide) dX11_safe_64 rfl ?_
        rw [hA2.1 1 (by omega)]
        refine gj_isub (pc' := 66) dX11_safe_65 rfl ?_
        rw [show ((100 : Int) - (T 1 : Int)) = ((100 - T 1 : Nat) : Int) by have := hT.2.1; omega]
        refine gj_i2l (pc' := 67) dX11_safe_66 rfl (by omega) ?_
        refine gj_iload_n (pc' := 68) dX11_safe_67 rfl rfl ?_
        refine gr_X11_384 (pc' := 71) dX11_safe_68 rfl (m_power (v := 100 - T 1) (by omega)) rfl (by decide) rfl (Nat.le_of_ble_eq_true rfl) ?_
        refine gj_ldc2 (z := 100) (pc' := 74) dX11_safe_71 rfl (gtb_at 1849 (by decide +kernel) rfl) ?_
        refine gj_iload_n (pc' := 75) dX11_safe_74 rfl rfl ?_
        refine gr_X11_384 (pc' := 78) dX11_safe_75 rfl (m_power (v := 100) (by omega)) rfl (by decide) rfl (Nat.le_of_ble_eq_true rfl) ?_
        refine gj_iload_n (pc' := 79) dX11_safe_78 rfl rfl ?_
        refine gr_X11_390 (pc' := 82) dX11_safe_79 rfl (m_lowest (by omega) (by omega) (one_le_p m)) rfl (by decide) rfl (Nat.le_of_ble_eq_true rfl) ?_
        refine gj_lret rfl dX11_safe_82 ?_
        first | exact qML_g (by unfold aSafe; (try simp only [Int.toNat_natCast]); repeat' (first | (exfalso; omega) | split | rfl | (congr 1; omega) | simp_all)) | exact qML_n (by unfold aSafe; (try simp only [Int.toNat_natCast]); repeat' (first | (exfalso; omega) | split | rfl | (congr 1; omega) | simp_all))
      · first | have g44 := of_decide_eq_true c44 | have g44 := of_decide_eq_false c44 | skip
        refine gj_aload_n (pc' := 48) dX11_safe_47 rfl rfl ?_
        refine gj_iload (pc' := 50) dX11_safe_48 rfl rfl ?_
        refine gc_X11_156 (pc' := 53) dX11_safe_50 rfl (m_no) rfl (by first | rfl | assumption) (by decide) rfl (Nat.le_of_ble_eq_true rfl) (fun v9 h9 q9 => ?_)
        obtain ⟨rfl, rfl⟩ := q9
        show gJ _ _ _ _ _ _ _ (.int (zI (-1)) :: _) _ _
        refine gj_i2l (pc' := 54) dX11_safe_53 rfl (by omega) ?_
        refine gj_goto (pc' := 82) dX11_safe_54 (by decide) ?_
        refine gj_lret rfl dX11_safe_82 ?_
        first | exact qML_g (by unfold aSafe; (try simp only [Int.toNat_natCast]); repeat' (first | (exfalso; omega) | split | rfl | (congr 1; omega) | simp_all)) | exact qML_n (by unfold aSafe; (try simp only [Int.toNat_natCast]); repeat' (first | (exfalso; omega) | split | rfl | (congr 1; omega) | simp_all))
theorem m_left {h : gH} {T S : Nat → Nat} {a b : Int} {l : Bool} (hQ : mQ h T S) (ha : inB a) (hb : inB b) : gSp 12 yX11_left cX11_left 9 (some .long) [.ref 142, .int (zI a), .int (zI b), .int (zI (bI l))] h (qML (aLeft T S a b l).1 (aLeft T S a b l).2 h) := by
  obtain ⟨hA, hH, hZ, -⟩ := id hQ
  have hH2 : (mG h).1 142 14 = bI (decide (T 3 ≠ 0)) := hH
  have ha2 := ha
  unfold inB at ha2
  have hb2 := hb
  unfold inB at hb2
  refine gSp_of (by decide +kernel) (Nat.le_of_ble_eq_true rfl) ?_
  show gJ RX11 cX11_left 9 (some .long) _ 0 [some (.ref 142), some (.int (zI a)), some (.int (zI b)), some (.int (zI (bI l))), none, none, none, none, none] [] _ _
  refine gj_aload_n (pc' := 1) dX11_left_0 rfl rfl ?_
  refine gc_X11_153 (pc' := 4) dX11_left_1 rfl (m_good) rfl (by first | rfl | assumption) (by decide) rfl (Nat.le_of_ble_eq_true rfl) (fun v9 h9 q9 => ?_)
  obtain ⟨rfl, rfl⟩ := q9
  show gJ _ _ _ _ _ _ _ [] _ _
  refine gj_aload_n (pc' := 5) dX11_left_4 rfl rfl ?_
  refine gj_aload_n (pc' := 6) dX11_left_5 rfl rfl ?_
  refine gj_iload_n (pc' := 7) dX11_left_6 rfl rfl ?_
  refine gr_X11_277 (pc' := 10) dX11_left_7 rfl (m_isHouseQ hQ.g ha) rfl (by first | rfl | assumption) (by decide) rfl (Nat.le_of_ble_eq_true rfl) ?_
  refine gj_iload_n (pc' := 11) dX11_left_10 rfl rfl ?_
  refine gj_bipush (pc' := 13) dX11_left_11 rfl (by decide) ?_
  refine gr_X11_298 (pc' := 16) dX11_left_13 rfl (m_why hb2 (by omega)) rfl (by first | rfl | assumption) (by decide) rfl (Nat.le_of_ble_eq_true rfl) ?_
  obtain ⟨w, hw, hw2⟩ := why_cs (C := 0 ≤ a ∧ a < (T 3 : Int)) (b := b) (m := 7)
  rw [hw]
  refine gj_istore (pc' := 18) dX11_left_16 rfl (by decide) ?_
  refine gj_iload (pc' := 20) dX11_left_18 rfl rfl ?_
  refine gj_if_eq (pc' := 23) (tgt := 31) dX11_left_20 (by decide) rfl (by omega) (fun c20 => ?_) (fun c20 => ?_)
  · first | have g20 := of_decide_eq_true c20 | have g20 := of_decide_eq_false c20 | skip
    obtain ⟨n, rfl⟩ : ∃ n : Nat, a = (n : Int) := ⟨a.toNat, by omega⟩
    obtain ⟨m, rfl⟩ : ∃ m : Nat, b = (m : Int) := ⟨b.toNat, by omega⟩
    have hM : MI (mG h) T S := hQ.mi (by omega)
    obtain ⟨hA2, hT, hS⟩ := id hM
    have h3 := hT.2.2.2.1
    have h4 : T 4 ≤ 7 := hT.2.2.2.2.1
    have hd := hS.2.2.1
    have g19 := sv19 hT hS
    have hl : sSet T S n (S 20) < 256 := pc_lt h4
    have h7 : pcN (sSet T S n (S 20)) ≤ 7 := by
      have := sN_le (f := fun k => (sSit T S n (S 20) k).toNat) (c := 1) (n := T 4) (fun i _ => Bool.toNat_le _)
      have e : pcN (sSet T S n (S 20)) = sN (fun k => (sSit T S n (S 20) k).toNat) (T 4) := pcN_bN _ (by omega)
      omega
    have hms : sMany T S n (S 20) = pcN (sSet T S n (S 20)) := rfl
    refine gj_aload_n (pc' := 32) dX11_left_31 rfl rfl ?_
    refine gj_iload_n (pc' := 33) dX11_left_32 rfl rfl ?_
    refine gj_aload_n (pc' := 34) dX11_left_33 rfl rfl ?_
    refine gf_X11_26 (pc' := 37) dX11_left_34 rfl (by first | rfl | assumption) rfl ?_
    refine gj_bipush (pc' := 39) dX11_left_37 rfl (by decide) ?_
    refine gj_iald (pc' := 40) (j := 20) (by first | rfl | assumption) (by omega) (by omega) (by decide) dX11_left_39 rfl ?_
    rw [hA2.2 20 (by omega)]
    refine gr_X11_280 (pc' := 43) dX11_left_40 rfl (m_sitting hM (by omega) (by omega)) rfl (by first | rfl | assumption) (by decide) rfl (Nat.le_of_ble_eq_true rfl) ?_
    refine gr_X11_295 (pc' := 46) dX11_left_43 rfl (m_ones (by omega)) rfl (by decide) rfl (Nat.le_of_ble_eq_true rfl) ?_
    rw [← hms] at h7 ⊢
    generalize hsm : sMany T S n (S 20) = c at h7 ⊢
    refine gj_istore (pc' := 48) dX11_left_46 rfl (by decide) ?_
    refine gj_iload_n (pc' := 49) dX11_left_48 rfl rfl ?_
    refine gj_iload (pc' := 51) dX11_left_49 rfl rfl ?_
    refine gj_icmp_le (pc' := 54) (tgt := 61) dX11_left_51 (by decide) rfl (by omega) (fun c51 => ?_) (fun c51 => ?_)
    · have b3 := hOf_le (hk := T 1) (a := c) (m := m) hT.2.1 h7 (by omega); have b2 := p100 (v := 100) (k := c) (by omega) (by omega)
      refine gj_lconst (pc' := 62) dX11_left_61 rfl ?_
      show gJ _ _ _ _ _ _ _ (.long (zL 1) :: _) _ _
      refine gj_lstore (pc' := 64) dX11_left_62 rfl (by decide) ?_
      refine gj_iconst (pc' := 65) dX11_left_64 rfl ?_
      refine gj_istore (pc' := 67) dX11_left_65 rfl (by decide) ?_
      refine gJ_wk (gJ_for (L := fun k => [some (.ref 142), some (.int (zI (n : Int))), some (.int (zI (m : Int))), some (.int (zI (bI l))), some (.int (zI w)), some (.int (zI (c : Int))), some (.long (zL ((cmM c k : Nat) : Int))), none, some (.int (zI (k : Int)))]) (m) (fun k hb_k ih_k => ?_) (0) (Nat.zero_le _)) ?_
      · have hp := cmM_le c h7 k (by omega)
        have es : cmM c (k + 1) = cmM c k * (c - k) / (k + 1) := rfl
        have ec : m = k → cmM c k = chC c m := fun q => by rw [← q]; exact cmM_eq c h7 m (by omega)
        generalize cmM c k = x at hp es ec ⊢
        have hx : x * (c - k) ≤ 100 * 8 := Nat.mul_le_mul hp (by omega)
        refine gj_iload (pc' := 69) dX11_left_67 rfl rfl ?_
        refine gj_iload_n (pc' := 70) dX11_left_69 rfl rfl ?_
        refine gj_icmp_ge (pc' := 73) (tgt := 96) dX11_left_70 (by decide) rfl (by omega) (fun c70 => ?_) (fun c70 => ?_)
        · refine gj_lload (pc' := 98) dX11_left_96 rfl rfl ?_
          refine gj_bipush (pc' := 100) dX11_left_98 rfl (by decide) ?_
          refine gj_aload_n (pc' := 101) dX11_left_100 rfl rfl ?_
          refine gf_X11_20 (pc' := 104) dX11_left_101 rfl (by first | rfl | assumption) rfl ?_
          refine gj_iconst (pc' := 105) dX11_left_104 rfl ?_
          refine gj_iald (pc' := 106) (j := 1) (by first | rfl | assumption) (by omega) (by omega) (by decide) dX11_left_105 rfl ?_
          rw [hA2.1 1 (by omega)]
          refine gj_isub (pc' := 107) dX11_left_106 rfl ?_
          rw [show ((100 : Int) - (T 1 : Int)) = ((100 - T 1 : Nat) : Int) by have := hT.2.1; omega, ec (by omega)]
          refine gj_i2l (pc' := 108) dX11_left_107 rfl (by omega) ?_
          refine gj_iload_n (pc' := 109) dX11_left_108 rfl rfl ?_
          refine gr_X11_384 (pc' := 112) dX11_left_109 rfl (m_power (v := 100 - T 1) (by omega)) rfl (by decide) rfl (Nat.le_of_ble_eq_true rfl) ?_
          refine gj_lmul (pc' := 113) dX11_left_112 rfl ?_
          refine gj_aload_n (pc' := 114) dX11_left_113 rfl rfl ?_
          refine gf_X11_20 (pc' := 117) dX11_left_114 rfl (by first | rfl | assumption) rfl ?_
          refine gj_iconst (pc' := 118) dX11_left_117 rfl ?_
          refine gj_iald (pc' := 119) (j := 1) (by first | rfl | assumption) (by omega) (by omega) (by decide) dX11_left_118 rfl ?_
          rw [hA2.1 1 (by omega)]
          refine gj_i2l (pc' := 120) dX11_left_119 rfl (by have := hT.2.1; omega) ?_
          refine gj_iload (pc' := 122) dX11_left_120 rfl rfl ?_
          refine gj_iload_n (pc' := 123) dX11_left_122 rfl rfl ?_
          refine gj_isub (pc' := 124) dX11_left_123 rfl ?_
          rw [show ((c : Int) - (m : Int)) = ((c - m : Nat) : Int) by omega]
          refine gr_X11_384 (pc' := 127) dX11_left_124 rfl (m_power (v := T 1) (by omega)) rfl (by decide) rfl (Nat.le_of_ble_eq_true rfl) ?_
          refine gj_lmul (pc' := 128) dX11_left_127 rfl ?_
          rw [← Int.natCast_mul, ← Int.natCast_mul]
          refine gj_ldc2 (z := 100) (pc' := 131) dX11_left_128 rfl (gtb_at 1849 (by decide +kernel) rfl) ?_
          refine gj_iload (pc' := 133) dX11_left_131 rfl rfl ?_
          refine gr_X11_384 (pc' := 136) dX11_left_133 rfl (m_power (v := 100) (by omega)) rfl (by decide) rfl (Nat.le_of_ble_eq_true rfl) ?_
          refine gj_iload_n (pc' := 137) dX11_left_136 rfl rfl ?_
          refine gr_X11_390 (pc' := 140) dX11_left_137 rfl (m_lowest (b3 (by omega)) (by omega) (one_le_p c)) rfl (by decide) rfl (Nat.le_of_ble_eq_true rfl) ?_
          refine gj_lret rfl dX11_left_140 ?_
          exact qML_g (by unfold aLeft aHoN; rw [if_pos (by omega), if_pos (by omega)]; simp only [Int.toNat_natCast, hsm]; unfold hOf; rw [if_neg (by omega)])
        · refine gj_lload (pc' := 75) dX11_left_73 rfl rfl ?_
          refine gj_iload (pc' := 77) dX11_left_75 rfl rfl ?_
          refine gj_iload (pc' := 79) dX11_left_77 rfl rfl ?_
          refine gj_isub (pc' := 80) dX11_left_79 rfl ?_
          refine gj_i2l (pc' := 81) dX11_left_80 rfl (by omega) ?_
          refine gj_lmul (pc' := 82) dX11_left_81 rfl ?_
          rw [show ((x : Int) * ((c : Int) - (k : Int))) = ((x * (c - k) : Nat) : Int) by rw [Int.natCast_mul]; congr 1; omega]
          refine gj_iload (pc' := 84) dX11_left_82 rfl rfl ?_
          refine gj_iconst (pc' := 85) dX11_left_84 rfl ?_
          refine gj_iadd (pc' := 86) dX11_left_85 rfl ?_
          refine gj_i2l (pc' := 87) dX11_left_86 rfl (by omega) ?_
          refine gj_ldiv (pc' := 88) dX11_left_87 rfl (by omega) (by omega) ?_
          refine gj_lstore (pc' := 90) dX11_left_88 rfl (by decide) ?_
          refine gj_iinc (pc' := 93) dX11_left_90 rfl rfl (by decide) ?_
          refine gj_goto (pc' := 67) dX11_left_93 (by decide) ?_
          refine gJ_wk (ih_k (by omega)) ?_
          repeat' (first | exact True.intro | with_reducible exact rfl | refine And.intro ?_ ?_ | refine vI ?_ | refine vL ?_)
          all_goals first | omega | (rw [es, Int.natCast_ediv]; congr 1)
      · repeat' (first | exact True.intro | with_reducible exact rfl | refine And.intro ?_ ?_ | refine vI ?_ | refine vL ?_)
        all_goals first | rfl | omega
    · refine gj_lconst (pc' := 55) dX11_left_54 rfl ?_
      show gJ _ _ _ _ _ _ _ (.long (zL 0) :: _) _ _
      refine gj_lconst (pc' := 56) dX11_left_55 rfl ?_
      show gJ _ _ _ _ _ _ _ (.long (zL 1) :: _) _ _
      refine gj_iload_n (pc' := 57) dX11_left_56 rfl rfl ?_
      refine gr_X11_390 (pc' := 60) dX11_left_57 rfl (m_lowest (u := 0) (w := 1) (by omega) (by omega) (by omega)) rfl (by decide) rfl (Nat.le_of_ble_eq_true rfl) ?_
      refine gj_lret rfl dX11_left_60 ?_
      exact qML_g (by unfold aLeft aHoN; rw [if_pos (by omega), if_pos (by omega)]; simp only [Int.toNat_natCast, hsm]; unfold hOf; rw [if_pos (by omega)])
  · first | have g20 := of_decide_eq_true c20 | have g20 := of_decide_eq_false c20 | skip
    refine gj_aload_n (pc' := 24) dX11_left_23 rfl rfl ?_
    refine gj_iload (pc' := 26) dX11_left_24 rfl rfl ?_
    refine gc_X11_156 (pc' := 29) dX11_left_26 rfl (m_no) rfl (by first | rfl | assumption) (by decide) rfl (Nat.le_of_ble_eq_true rfl) (fun v9 h9 q9 => ?_)
    obtain ⟨rfl, rfl⟩ := q9
    show gJ _ _ _ _ _ _ _ (.int (zI (-1)) :: _) _ _
    refine gj_i2l (pc' := 30) dX11_left_29 rfl (by omega) ?_
    refine gj_lret rfl dX11_left_30 ?_
    first | exact qML_g (by unfold aLeft aHoN; (try simp only [Int.toNat_natCast]); repeat' (first | (exfalso; omega) | split | rfl | (congr 1; omega) | simp_all)) | exact qML_n (by unfold aLeft aHoN; (try simp only [Int.toNat_natCast]); repeat' (first | (exfalso; omega) | split | rfl | (congr 1; omega) | simp_all))
theorem m_stays {h : gH} {T S : Nat → Nat} {b : Int} {l : Bool} (hQ : mQ h T S) (hb : inB b) : gSp 12 yX11_stays cX11_stays 7 (some .long) [.ref 142, .int (zI b), .int (zI (bI l))] h (qML (aStays T b l).1 (aStays T b l).2 h) := by
  obtain ⟨hA, hH, hZ, -⟩ := id hQ
  have hH2 : (mG h).1 142 14 = bI (decide (T 3 ≠ 0)) := hH
  have hb2 := hb
  unfold inB at hb2
  refine gSp_of (by decide +kernel) (Nat.le_of_ble_eq_true rfl) ?_
  show gJ RX11 cX11_stays 7 (some .long) _ 0 [some (.ref 142), some (.int (zI b)), some (.int (zI (bI l))), none, none, none, none] [] _ _
  refine gj_aload_n (pc' := 1) dX11_stays_0 rfl rfl ?_
  refine gc_X11_153 (pc' := 4) dX11_stays_1 rfl (m_good) rfl (by first | rfl | assumption) (by decide) rfl (Nat.le_of_ble_eq_true rfl) (fun v9 h9 q9 => ?_)
  obtain ⟨rfl, rfl⟩ := q9
  show gJ _ _ _ _ _ _ _ [] _ _
  refine gj_aload_n (pc' := 5) dX11_stays_4 rfl rfl ?_
  refine gj_aload_n (pc' := 6) dX11_stays_5 rfl rfl ?_
  refine gf_X11_166 (pc' := 9) dX11_stays_6 rfl (by first | rfl | assumption) rfl ?_
  rw [hH2]
  refine gj_iload_n (pc' := 10) dX11_stays_9 rfl rfl ?_
  refine gj_bipush (pc' := 12) dX11_stays_10 rfl (by decide) ?_
  refine gr_X11_298 (pc' := 15) dX11_stays_12 rfl (m_why hb2 (by omega)) rfl (by first | rfl | assumption) (by decide) rfl (Nat.le_of_ble_eq_true rfl) ?_
  obtain ⟨w, hw, hw2⟩ := why_cs (C := T 3 ≠ 0) (b := b) (m := 8)
  rw [hw]
  refine gj_istore_n (pc' := 16) dX11_stays_15 rfl (by decide) ?_
  refine gj_iload_n (pc' := 17) dX11_stays_16 rfl rfl ?_
  refine gj_if_eq (pc' := 20) (tgt := 27) dX11_stays_17 (by decide) rfl (by omega) (fun c17 => ?_) (fun c17 => ?_)
  · first | have g17 := of_decide_eq_true c17 | have g17 := of_decide_eq_false c17 | skip
    obtain ⟨m, rfl⟩ : ∃ m : Nat, b = (m : Int) := ⟨b.toNat, by omega⟩
    have hM : MI (mG h) T S := hQ.mi (by omega)
    obtain ⟨hA2, hT, hS⟩ := id hM
    have h3 := hT.2.2.2.1
    have h4 : T 4 ≤ 7 := hT.2.2.2.2.1
    have hd := hS.2.2.1
    have g19 := sv19 hT hS
    have h1 := hT.2.1
    have b2 := p100 (v := 100) (k := m) (by omega) (by omega)
    have b3 := hMe_le (hk := T 1) (n := m) h1 (by omega)
    refine gj_lconst (pc' := 28) dX11_stays_27 rfl ?_
    show gJ _ _ _ _ _ _ _ (.long (zL 0) :: _) _ _
    refine gj_lstore (pc' := 30) dX11_stays_28 rfl (by decide) ?_
    refine gj_iconst (pc' := 31) dX11_stays_30 rfl ?_
    refine gj_istore (pc' := 33) dX11_stays_31 rfl (by decide) ?_
    refine gJ_wk (gJ_for (L := fun k => [some (.ref 142), some (.int (zI (m : Int))), some (.int (zI (bI l))), none, some (.long (zL ((hMeS (T 1) m k : Nat) : Int))), none, some (.int (zI ((k : Int) + 1)))]) (m) (fun k hb_k ih_k => ?_) (0) (Nat.zero_le _)) ?_
    · have es : hMeS (T 1) m (k + 1) = hMeS (T 1) m k + (100 - T 1) ^ (k + 1) * 100 ^ (m - (k + 1)) := rfl
      refine gj_iload (pc' := 35) dX11_stays_33 rfl rfl ?_
      refine gj_iload_n (pc' := 36) dX11_stays_35 rfl rfl ?_
      refine gj_icmp_gt (pc' := 39) (tgt := 76) dX11_stays_36 (by decide) rfl (by omega) (fun c36 => ?_) (fun c36 => ?_)
      · refine gj_lload (pc' := 78) dX11_stays_76 rfl rfl ?_
        rw [show k = m by omega]
        refine gj_ldc2 (z := 100) (pc' := 81) dX11_stays_78 rfl (gtb_at 1849 (by decide +kernel) rfl) ?_
        refine gj_iload_n (pc' := 82) dX11_stays_81 rfl rfl ?_
        refine gr_X11_384 (pc' := 85) dX11_stays_82 rfl (m_power (v := 100) (by omega)) rfl (by decide) rfl (Nat.le_of_ble_eq_true rfl) ?_
        refine gj_iload_n (pc' := 86) dX11_stays_85 rfl rfl ?_
        refine gr_X11_390 (pc' := 89) dX11_stays_86 rfl (m_lowest b3 (by omega) (one_le_p m)) rfl (by decide) rfl (Nat.le_of_ble_eq_true rfl) ?_
        refine gj_lret rfl dX11_stays_89 ?_
        first | exact qML_g (by unfold aStays aToN; (try simp only [Int.toNat_natCast]); repeat' (first | (exfalso; omega) | split | rfl | (congr 1; omega) | simp_all)) | exact qML_n (by unfold aStays aToN; (try simp only [Int.toNat_natCast]); repeat' (first | (exfalso; omega) | split | rfl | (congr 1; omega) | simp_all))
      · refine gj_lload (pc' := 41) dX11_stays_39 rfl rfl ?_
        refine gj_bipush (pc' := 43) dX11_stays_41 rfl (by decide) ?_
        refine gj_aload_n (pc' := 44) dX11_stays_43 rfl rfl ?_
        refine gf_X11_20 (pc' := 47) dX11_stays_44 rfl (by first | rfl | assumption) rfl ?_
        refine gj_iconst (pc' := 48) dX11_stays_47 rfl ?_
        refine gj_iald (pc' := 49) (j := 1) (by first | rfl | assumption) (by omega) (by omega) (by decide) dX11_stays_48 rfl ?_
        rw [hA2.1 1 (by omega)]
        refine gj_isub (pc' := 50) dX11_stays_49 rfl ?_
        rw [show ((100 : Int) - (T 1 : Int)) = ((100 - T 1 : Nat) : Int) by omega]
        refine gj_i2l (pc' := 51) dX11_stays_50 rfl (by omega) ?_
        refine gj_iload (pc' := 53) dX11_stays_51 rfl rfl ?_
        rw [show ((k : Int) + 1) = ((k + 1 : Nat) : Int) by omega]
        refine gr_X11_384 (pc' := 56) dX11_stays_53 rfl (m_power (v := 100 - T 1) (by omega)) rfl (by decide) rfl (Nat.le_of_ble_eq_true rfl) ?_
        refine gj_ldc2 (z := 100) (pc' := 59) dX11_stays_56 rfl (gtb_at 1849 (by decide +kernel) rfl) ?_
        refine gj_iload_n (pc' := 60) dX11_stays_59 rfl rfl ?_
        refine gj_iload (pc' := 62) dX11_stays_60 rfl rfl ?_
        refine gj_isub (pc' := 63) dX11_stays_62 rfl ?_
        rw [show ((m : Int) - ((k + 1 : Nat) : Int)) = ((m - (k + 1) : Nat) : Int) by omega]
        refine gr_X11_384 (pc' := 66) dX11_stays_63 rfl (m_power (v := 100) (by omega)) rfl (by decide) rfl (Nat.le_of_ble_eq_true rfl) ?_
        refine gj_lmul (pc' := 67) dX11_stays_66 rfl ?_
        refine gj_ladd (pc' := 68) dX11_stays_67 rfl ?_
        refine gj_lstore (pc' := 70) dX11_stays_68 rfl (by decide) ?_
        refine gj_iinc (pc' := 73) dX11_stays_70 rfl rfl (by decide) ?_
        refine gj_goto (pc' := 33) dX11_stays_73 (by decide) ?_
        refine gJ_wk (ih_k (by omega)) ?_
        repeat' (first | exact True.intro | with_reducible exact rfl | refine And.intro ?_ ?_ | refine vI ?_ | refine vL ?_)
        all_goals first | omega | (rw [es, Int.natCast_add, Int.natCast_mul])
    · repeat' (first | exact True.intro | with_reducible exact rfl | refine And.intro ?_ ?_ | refine vI ?_ | refine vL ?_)
      all_goals first | rfl | omega
  · first | have g17 := of_decide_eq_true c17 | have g17 := of_decide_eq_false c17 | skip
    refine gj_aload_n (pc' := 21) dX11_stays_20 rfl rfl ?_
    refine gj_iload_n (pc' := 22) dX11_stays_21 rfl rfl ?_
    refine gc_X11_156 (pc' := 25) dX11_stays_22 rfl (m_no) rfl (by first | rfl | assumption) (by decide) rfl (Nat.le_of_ble_eq_true rfl) (fun v9 h9 q9 => ?_)
    obtain ⟨rfl, rfl⟩ := q9
    show gJ _ _ _ _ _ _ _ (.int (zI (-1)) :: _) _ _
    refine gj_i2l (pc' := 26) dX11_stays_25 rfl (by omega) ?_
    refine gj_lret rfl dX11_stays_26 ?_
    first | exact qML_g (by unfold aStays aToN; (try simp only [Int.toNat_natCast]); repeat' (first | (exfalso; omega) | split | rfl | (congr 1; omega) | simp_all)) | exact qML_n (by unfold aStays aToN; (try simp only [Int.toNat_natCast]); repeat' (first | (exfalso; omega) | split | rfl | (congr 1; omega) | simp_all))
theorem m_most {h : gH} {T S : Nat → Nat} {b : Int} (hQ : mQ h T S) (hb : inB b) : gSp 12 yX11_most cX11_most 6 (some .int) [.ref 142, .int (zI b)] h (qM (aToN T b (fun m => (lBest T S (nPr T S) m (nPr T S) : Nat)) 999).1 (aToN T b (fun m => (lBest T S (nPr T S) m (nPr T S) : Nat)) 999).2 h) := by
  obtain ⟨hA, hH, hZ, -⟩ := id hQ
  have hH2 : (mG h).1 142 14 = bI (decide (T 3 ≠ 0)) := hH
  have hb2 := hb
  unfold inB at hb2
  refine gSp_of (by decide +kernel) (Nat.le_of_ble_eq_true rfl) ?_
  show gJ RX11 cX11_most 6 (some .int) _ 0 [some (.ref 142), some (.int (zI b)), none, none, none, none] [] _ _
  refine gj_aload_n (pc' := 1) dX11_most_0 rfl rfl ?_
  refine gc_X11_153 (pc' := 4) dX11_most_1 rfl (m_good) rfl (by first | rfl | assumption) (by decide) rfl (Nat.le_of_ble_eq_true rfl) (fun v9 h9 q9 => ?_)
  obtain ⟨rfl, rfl⟩ := q9
  show gJ _ _ _ _ _ _ _ [] _ _
  refine gj_aload_n (pc' := 5) dX11_most_4 rfl rfl ?_
  refine gj_aload_n (pc' := 6) dX11_most_5 rfl rfl ?_
  refine gf_X11_166 (pc' := 9) dX11_most_6 rfl (by first | rfl | assumption) rfl ?_
  rw [hH2]
  refine gj_iload_n (pc' := 10) dX11_most_9 rfl rfl ?_
  refine gj_sipush (pc' := 13) dX11_most_10 rfl (by decide) ?_
  refine gr_X11_298 (pc' := 16) dX11_most_13 rfl (m_why hb2 (by omega)) rfl (by first | rfl | assumption) (by decide) rfl (Nat.le_of_ble_eq_true rfl) ?_
  obtain ⟨w, hw, hw2⟩ := why_cs (C := T 3 ≠ 0) (b := b) (m := 999)
  rw [hw]
  refine gj_istore_n (pc' := 17) dX11_most_16 rfl (by decide) ?_
  refine gj_iload_n (pc' := 18) dX11_most_17 rfl rfl ?_
  refine gj_if_eq (pc' := 21) (tgt := 27) dX11_most_18 (by decide) rfl (by omega) (fun c18 => ?_) (fun c18 => ?_)
  · first | have g18 := of_decide_eq_true c18 | have g18 := of_decide_eq_false c18 | skip
    obtain ⟨m, rfl⟩ : ∃ m : Nat, b = (m : Int) := ⟨b.toNat, by omega⟩
    have hM : MI (mG h) T S := hQ.mi (by omega)
    obtain ⟨hA2, hT, hS⟩ := id hM
    have h3 := hT.2.2.2.1
    have h4 : T 4 ≤ 7 := hT.2.2.2.2.1
    have hd := hS.2.2.1
    have g19 := sv19 hT hS
    refine gj_iconst (pc' := 28) dX11_most_27 rfl ?_
    refine gj_istore_n (pc' := 29) dX11_most_28 rfl (by decide) ?_
    refine gj_iconst (pc' := 30) dX11_most_29 rfl ?_
    refine gj_istore (pc' := 32) dX11_most_30 rfl (by decide) ?_
    refine gJ_wk (gJ_for (L := fun k => [some (.ref 142), some (.int (zI (m : Int))), none, some (.int (zI ((lBest T S (nPr T S) m k : Nat) : Int))), some (.int (zI ((k : Int) + 1))), none]) (2 ^ T 4 - 1) (fun k hb_k ih_k => ?_) (0) (Nat.zero_le _)) ?_
    · have es : lBest T S (nPr T S) m (k + 1) = lStep T S (nPr T S) m (k + 1) (lBest T S (nPr T S) m k) := rfl
      have lx := lBest_le T S (nPr T S) m k
      have ec : 2 ^ T 4 - 1 = k → lBest T S (nPr T S) m (nPr T S) = lBest T S (nPr T S) m k := fun q => by rw [← q]; exact (lBest_far (nWo_le _ _)).symm
      have hp7 : 2 ^ T 4 ≤ 128 := Nat.pow_le_pow_right (n := 2) (by omega) h4
      generalize lBest T S (nPr T S) m k = x at es lx ec ⊢
      have b1 := sSum_le (S := S) hT (k + 1)
      have b2 := sSum_le (S := S) hT x
      have b3 := pcN_le (k + 1)
      have b4 := pcN_le x
      have hsub : k < 2 ^ T 4 - 1 → (nWo (k + 1) (nPr T S) = 0 ↔ (k + 1) &&& S 19 = 0) := fun q => nPr_sub (by omega)
      have ha19 : (k + 1) &&& S 19 ≤ S 19 := Nat.and_le_right
      rw [show ((k : Int) + 1) = ((k + 1 : Nat) : Int) by omega]
      refine gj_iload (pc' := 34) dX11_most_32 rfl rfl ?_
      refine gj_aload_n (pc' := 35) dX11_most_34 rfl rfl ?_
      refine gr_X11_271 (pc' := 38) dX11_most_35 rfl (m_allBirds hA2 h4) rfl (by first | rfl | assumption) (by decide) rfl (Nat.le_of_ble_eq_true rfl) ?_
      refine gj_icmp_gt (pc' := 41) (tgt := 112) dX11_most_38 (by decide) rfl (by omega) (fun c38 => ?_) (fun c38 => ?_)
      · refine gj_iload_n (pc' := 113) dX11_most_112 rfl rfl ?_
        refine gj_iret rfl dX11_most_113 ?_
        exact qM_g (by unfold aToN; rw [if_pos (by omega), if_pos (by omega)]; simp only [Int.toNat_natCast]; rw [ec (by omega)])
      · refine gj_iload (pc' := 43) dX11_most_41 rfl rfl ?_
        refine gj_aload_n (pc' := 44) dX11_most_43 rfl rfl ?_
        refine gf_X11_26 (pc' := 47) dX11_most_44 rfl (by first | rfl | assumption) rfl ?_
        refine gj_bipush (pc' := 49) dX11_most_47 rfl (by decide) ?_
        refine gj_iald (pc' := 50) (j := 19) (by first | rfl | assumption) (by omega) (by omega) (by decide) dX11_most_49 rfl ?_
        rw [hA2.2 19 (by omega)]
        refine gj_iand (pc' := 51) dX11_most_50 rfl ?_
        rw [bt_and (by omega) (by omega)]
        refine gj_if_ne (pc' := 54) (tgt := 106) dX11_most_51 (by decide) rfl (by omega) (fun c51 => ?_) (fun c51 => ?_)
        · first | have g51 := of_decide_eq_true c51 | have g51 := of_decide_eq_false c51 | skip
          refine gj_iinc (pc' := 109) dX11_most_106 rfl rfl (by decide) ?_
          refine gj_goto (pc' := 32) dX11_most_109 (by decide) ?_
          refine gJ_wk (ih_k (by omega)) ?_
          repeat' (first | exact True.intro | with_reducible exact rfl | refine And.intro ?_ ?_ | refine vI ?_ | refine vL ?_)
          all_goals first | omega | (have hs2 := hsub (by omega); rw [es]; unfold lStep; split <;> omega)
        · first | have g51 := of_decide_eq_true c51 | have g51 := of_decide_eq_false c51 | skip
          refine gj_aload_n (pc' := 55) dX11_most_54 rfl rfl ?_
          refine gj_iload (pc' := 57) dX11_most_55 rfl rfl ?_
          refine gr_X11_314 (pc' := 60) dX11_most_57 rfl (m_leftsOf (m := k + 1) hM (by omega)) rfl (by first | rfl | assumption) (by decide) rfl (Nat.le_of_ble_eq_true rfl) ?_
          refine gj_iload_n (pc' := 61) dX11_most_60 rfl rfl ?_
          refine gj_icmp_le (pc' := 64) (tgt := 67) dX11_most_61 (by decide) rfl (by omega) (fun c61 => ?_) (fun c61 => ?_)
          · refine gj_iload (pc' := 69) dX11_most_67 rfl rfl ?_
            refine gr_X11_295 (pc' := 72) dX11_most_69 rfl (m_ones (m := k + 1) (by omega)) rfl (by decide) rfl (Nat.le_of_ble_eq_true rfl) ?_
            refine gj_iload_n (pc' := 73) dX11_most_72 rfl rfl ?_
            refine gr_X11_295 (pc' := 76) dX11_most_73 rfl (m_ones (m := x) (by omega)) rfl (by decide) rfl (Nat.le_of_ble_eq_true rfl) ?_
            refine gj_isub (pc' := 77) dX11_most_76 rfl ?_
            refine gj_istore (pc' := 79) dX11_most_77 rfl (by decide) ?_
            refine gj_iload (pc' := 81) dX11_most_79 rfl rfl ?_
            refine gj_if_gt (pc' := 84) (tgt := 103) dX11_most_81 (by decide) rfl (by omega) (fun c81 => ?_) (fun c81 => ?_)
            · first | have g81 := of_decide_eq_true c81 | have g81 := of_decide_eq_false c81 | skip
              refine gj_iload (pc' := 105) dX11_most_103 rfl rfl ?_
              refine gj_istore_n (pc' := 106) dX11_most_105 rfl (by decide) ?_
              refine gj_iinc (pc' := 109) dX11_most_106 rfl rfl (by decide) ?_
              refine gj_goto (pc' := 32) dX11_most_109 (by decide) ?_
              refine gJ_wk (ih_k (by omega)) ?_
              repeat' (first | exact True.intro | with_reducible exact rfl | refine And.intro ?_ ?_ | refine vI ?_ | refine vL ?_)
              all_goals first | omega | (have hs2 := hsub (by omega); rw [es]; unfold lStep; split <;> omega)
            · first | have g81 := of_decide_eq_true c81 | have g81 := of_decide_eq_false c81 | skip
              refine gj_iload (pc' := 86) dX11_most_84 rfl rfl ?_
              refine gj_if_ne (pc' := 89) (tgt := 106) dX11_most_86 (by decide) rfl (by omega) (fun c86 => ?_) (fun c86 => ?_)
              · first | have g86 := of_decide_eq_true c86 | have g86 := of_decide_eq_false c86 | skip
                refine gj_iinc (pc' := 109) dX11_most_106 rfl rfl (by decide) ?_
                refine gj_goto (pc' := 32) dX11_most_109 (by decide) ?_
                refine gJ_wk (ih_k (by omega)) ?_
                repeat' (first | exact True.intro | with_reducible exact rfl | refine And.intro ?_ ?_ | refine vI ?_ | refine vL ?_)
                all_goals first | omega | (have hs2 := hsub (by omega); rw [es]; unfold lStep; split <;> omega)
              · first | have g86 := of_decide_eq_true c86 | have g86 := of_decide_eq_false c86 | skip
                refine gj_aload_n (pc' := 90) dX11_most_89 rfl rfl ?_
                refine gj_iload (pc' := 92) dX11_most_90 rfl rfl ?_
                refine gr_X11_314 (pc' := 95) dX11_most_92 rfl (m_leftsOf (m := k + 1) hM (by omega)) rfl (by first | rfl | assumption) (by decide) rfl (Nat.le_of_ble_eq_true rfl) ?_
                refine gj_aload_n (pc' := 96) dX11_most_95 rfl rfl ?_
                refine gj_iload_n (pc' := 97) dX11_most_96 rfl rfl ?_
                refine gr_X11_314 (pc' := 100) dX11_most_97 rfl (m_leftsOf (m := x) hM (by omega)) rfl (by first | rfl | assumption) (by decide) rfl (Nat.le_of_ble_eq_true rfl) ?_
                refine gj_icmp_ge (pc' := 103) (tgt := 106) dX11_most_100 (by decide) rfl (by omega) (fun c100 => ?_) (fun c100 => ?_)
                · refine gj_iinc (pc' := 109) dX11_most_106 rfl rfl (by decide) ?_
                  refine gj_goto (pc' := 32) dX11_most_109 (by decide) ?_
                  refine gJ_wk (ih_k (by omega)) ?_
                  repeat' (first | exact True.intro | with_reducible exact rfl | refine And.intro ?_ ?_ | refine vI ?_ | refine vL ?_)
                  all_goals first | omega | (have hs2 := hsub (by omega); rw [es]; unfold lStep; split <;> omega)
                · refine gj_iload (pc' := 105) dX11_most_103 rfl rfl ?_
                  refine gj_istore_n (pc' := 106) dX11_most_105 rfl (by decide) ?_
                  refine gj_iinc (pc' := 109) dX11_most_106 rfl rfl (by decide) ?_
                  refine gj_goto (pc' := 32) dX11_most_109 (by decide) ?_
                  refine gJ_wk (ih_k (by omega)) ?_
                  repeat' (first | exact True.intro | with_reducible exact rfl | refine And.intro ?_ ?_ | refine vI ?_ | refine vL ?_)
                  all_goals first | omega | (have hs2 := hsub (by omega); rw [es]; unfold lStep; split <;> omega)
          · refine gj_goto (pc' := 106) dX11_most_64 (by decide) ?_
            refine gj_iinc (pc' := 109) dX11_most_106 rfl rfl (by decide) ?_
            refine gj_goto (pc' := 32) dX11_most_109 (by decide) ?_
            refine gJ_wk (ih_k (by omega)) ?_
            repeat' (first | exact True.intro | with_reducible exact rfl | refine And.intro ?_ ?_ | refine vI ?_ | refine vL ?_)
            all_goals first | omega | (have hs2 := hsub (by omega); rw [es]; unfold lStep; split <;> omega)
    · repeat' (first | exact True.intro | with_reducible exact rfl | refine And.intro ?_ ?_ | refine vI ?_ | refine vL ?_)
      all_goals first | rfl | omega
  · first | have g18 := of_decide_eq_true c18 | have g18 := of_decide_eq_false c18 | skip
    refine gj_aload_n (pc' := 22) dX11_most_21 rfl rfl ?_
    refine gj_iload_n (pc' := 23) dX11_most_22 rfl rfl ?_
    refine gc_X11_156 (pc' := 26) dX11_most_23 rfl (m_no) rfl (by first | rfl | assumption) (by decide) rfl (Nat.le_of_ble_eq_true rfl) (fun v9 h9 q9 => ?_)
    obtain ⟨rfl, rfl⟩ := q9
    show gJ _ _ _ _ _ _ _ (.int (zI (-1)) :: _) _ _
    refine gj_iret rfl dX11_most_26 ?_
    first | exact qM_g (by unfold aToN; (try simp only [Int.toNat_natCast]); repeat' (first | (exfalso; omega) | split | rfl | (congr 1; omega) | simp_all)) | exact qM_n (by unfold aToN; (try simp only [Int.toNat_natCast]); repeat' (first | (exfalso; omega) | split | rfl | (congr 1; omega) | simp_all))
theorem m_coinsFor {h : gH} {T S : Nat → Nat} {b : Int} (hQ : mQ h T S) (hb : inB b) : gSp 12 yX11_coinsFor cX11_coinsFor 5 (some .int) [.ref 142, .int (zI b)] h (qM (aToN T b (fun m => cBest T S (nPr T S) m (nPr T S + 1)) 7).1 (aToN T b (fun m => cBest T S (nPr T S) m (nPr T S + 1)) 7).2 h) := by
  obtain ⟨hA, hH, hZ, -⟩ := id hQ
  have hH2 : (mG h).1 142 14 = bI (decide (T 3 ≠ 0)) := hH
  have hb2 := hb
  unfold inB at hb2
  refine gSp_of (by decide +kernel) (Nat.le_of_ble_eq_true rfl) ?_
  show gJ RX11 cX11_coinsFor 5 (some .int) _ 0 [some (.ref 142), some (.int (zI b)), none, none, none] [] _ _
  refine gj_aload_n (pc' := 1) dX11_coinsFor_0 rfl rfl ?_
  refine gc_X11_153 (pc' := 4) dX11_coinsFor_1 rfl (m_good) rfl (by first | rfl | assumption) (by decide) rfl (Nat.le_of_ble_eq_true rfl) (fun v9 h9 q9 => ?_)
  obtain ⟨rfl, rfl⟩ := q9
  show gJ _ _ _ _ _ _ _ [] _ _
  refine gj_aload_n (pc' := 5) dX11_coinsFor_4 rfl rfl ?_
  refine gj_aload_n (pc' := 6) dX11_coinsFor_5 rfl rfl ?_
  refine gf_X11_166 (pc' := 9) dX11_coinsFor_6 rfl (by first | rfl | assumption) rfl ?_
  rw [hH2]
  refine gj_iload_n (pc' := 10) dX11_coinsFor_9 rfl rfl ?_
  refine gj_bipush (pc' := 12) dX11_coinsFor_10 rfl (by decide) ?_
  refine gr_X11_298 (pc' := 15) dX11_coinsFor_12 rfl (m_why hb2 (by omega)) rfl (by first | rfl | assumption) (by decide) rfl (Nat.le_of_ble_eq_true rfl) ?_
  obtain ⟨w, hw, hw2⟩ := why_cs (C := T 3 ≠ 0) (b := b) (m := 7)
  rw [hw]
  refine gj_istore_n (pc' := 16) dX11_coinsFor_15 rfl (by decide) ?_
  refine gj_iload_n (pc' := 17) dX11_coinsFor_16 rfl rfl ?_
  refine gj_if_eq (pc' := 20) (tgt := 26) dX11_coinsFor_17 (by decide) rfl (by omega) (fun c17 => ?_) (fun c17 => ?_)
  · first | have g17 := of_decide_eq_true c17 | have g17 := of_decide_eq_false c17 | skip
    obtain ⟨m, rfl⟩ : ∃ m : Nat, b = (m : Int) := ⟨b.toNat, by omega⟩
    have hM : MI (mG h) T S := hQ.mi (by omega)
    obtain ⟨hA2, hT, hS⟩ := id hM
    have h3 := hT.2.2.2.1
    have h4 : T 4 ≤ 7 := hT.2.2.2.2.1
    have hd := hS.2.2.1
    have g19 := sv19 hT hS
    refine gj_bipush (pc' := 28) dX11_coinsFor_26 rfl (by decide) ?_
    refine gj_istore_n (pc' := 29) dX11_coinsFor_28 rfl (by decide) ?_
    refine gj_iconst (pc' := 30) dX11_coinsFor_29 rfl ?_
    refine gj_istore (pc' := 32) dX11_coinsFor_30 rfl (by decide) ?_
    refine gJ_wk (gJ_fI1 (L := fun k x => [some (.ref 142), some (.int (zI (m : Int))), none, some (.int (zI x)), some (.int (zI (k : Int)))]) (I := fun k x => x = cBest T S (nPr T S) m k) (2 ^ T 4) (fun k x hb_k iv_k ih_k => ?step_1) (0) (Nat.zero_le _) ?x0_1 ?iv0_1) ?ll0_1
    case ll0_1 =>
      repeat' (first | exact True.intro | with_reducible exact rfl | refine And.intro ?_ ?_ | refine vI ?_ | refine vL ?_)
      all_goals first | rfl | omega
    case iv0_1 =>
      rfl
    have es : cBest T S (nPr T S) m (k + 1) = cStep T S (nPr T S) m k (cBest T S (nPr T S) m k) := rfl
    have lx := cBest_in (S := S) hT (nPr T S) m k
    have hp7 : 2 ^ T 4 ≤ 128 := Nat.pow_le_pow_right (n := 2) (by omega) h4
    have hp1 : 1 ≤ 2 ^ T 4 := Nat.one_le_two_pow
    have ec : 2 ^ T 4 = k → cBest T S (nPr T S) m (nPr T S + 1) = cBest T S (nPr T S) m k := fun q => by rw [← q]; exact (cBest_far (by have := nWo_le (2 ^ T 4 - 1) (S 19); unfold nPr; omega)).symm
    subst iv_k
    generalize cBest T S (nPr T S) m k = x at es lx ec ⊢
    have b1 := sSum_le (S := S) hT k
    have b3 := pcN_le k
    have hsub : k < 2 ^ T 4 → (nWo k (nPr T S) = 0 ↔ k &&& S 19 = 0) := fun q => nPr_sub (by omega)
    have ha19 : k &&& S 19 ≤ S 19 := Nat.and_le_right
    refine gj_iload (pc' := 34) dX11_coinsFor_32 rfl rfl ?_
    refine gj_aload_n (pc' := 35) dX11_coinsFor_34 rfl rfl ?_
    refine gr_X11_271 (pc' := 38) dX11_coinsFor_35 rfl (m_allBirds hA2 h4) rfl (by first | rfl | assumption) (by decide) rfl (Nat.le_of_ble_eq_true rfl) ?_
    refine gj_icmp_gt (pc' := 41) (tgt := 90) dX11_coinsFor_38 (by decide) rfl (by omega) (fun c38 => ?_) (fun c38 => ?_)
    · refine gj_iload_n (pc' := 91) dX11_coinsFor_90 rfl rfl ?_
      refine gj_iret rfl dX11_coinsFor_91 ?_
      exact qM_g (by unfold aToN; rw [if_pos (by omega), if_pos (by omega)]; simp only [Int.toNat_natCast]; rw [ec (by omega)])
    · refine gj_iload (pc' := 43) dX11_coinsFor_41 rfl rfl ?_
      refine gj_aload_n (pc' := 44) dX11_coinsFor_43 rfl rfl ?_
      refine gf_X11_26 (pc' := 47) dX11_coinsFor_44 rfl (by first | rfl | assumption) rfl ?_
      refine gj_bipush (pc' := 49) dX11_coinsFor_47 rfl (by decide) ?_
      refine gj_iald (pc' := 50) (j := 19) (by first | rfl | assumption) (by omega) (by omega) (by decide) dX11_coinsFor_49 rfl ?_
      rw [hA2.2 19 (by omega)]
      refine gj_iand (pc' := 51) dX11_coinsFor_50 rfl ?_
      rw [bt_and (by omega) (by omega)]
      refine gj_if_ne (pc' := 54) (tgt := 84) dX11_coinsFor_51 (by decide) rfl (by omega) (fun c51 => ?_) (fun c51 => ?_)
      · first | have g51 := of_decide_eq_true c51 | have g51 := of_decide_eq_false c51 | skip
        refine gj_iinc (pc' := 87) dX11_coinsFor_84 rfl rfl (by decide) ?_
        refine gj_goto (pc' := 32) dX11_coinsFor_87 (by decide) ?_
        refine gJ_wk (ih_k ?x_2 (by omega) ?iv_2) ?ll_2
        case ll_2 =>
          repeat' (first | exact True.intro | with_reducible exact rfl | refine And.intro ?_ ?_ | refine vI ?_ | refine vL ?_)
          all_goals omega
        have hs2 := hsub (by omega)
        rw [es]
        unfold cStep
        split <;> omega
      · first | have g51 := of_decide_eq_true c51 | have g51 := of_decide_eq_false c51 | skip
        refine gj_iload (pc' := 56) dX11_coinsFor_54 rfl rfl ?_
        refine gr_X11_295 (pc' := 59) dX11_coinsFor_56 rfl (m_ones (m := k) (by omega)) rfl (by decide) rfl (Nat.le_of_ble_eq_true rfl) ?_
        refine gj_iload_n (pc' := 60) dX11_coinsFor_59 rfl rfl ?_
        refine gj_icmp_ne (pc' := 63) (tgt := 84) dX11_coinsFor_60 (by decide) rfl (by omega) (fun c60 => ?_) (fun c60 => ?_)
        · refine gj_iinc (pc' := 87) dX11_coinsFor_84 rfl rfl (by decide) ?_
          refine gj_goto (pc' := 32) dX11_coinsFor_87 (by decide) ?_
          refine gJ_wk (ih_k ?x_3 (by omega) ?iv_3) ?ll_3
          case ll_3 =>
            repeat' (first | exact True.intro | with_reducible exact rfl | refine And.intro ?_ ?_ | refine vI ?_ | refine vL ?_)
            all_goals omega
          have hs2 := hsub (by omega)
          rw [es]
          unfold cStep
          split <;> omega
        · refine gj_iload_n (pc' := 64) dX11_coinsFor_63 rfl rfl ?_
          refine gj_if_lt (pc' := 67) (tgt := 77) dX11_coinsFor_64 (by decide) rfl (by omega) (fun c64 => ?_) (fun c64 => ?_)
          · first | have g64 := of_decide_eq_true c64 | have g64 := of_decide_eq_false c64 | skip
            refine gj_aload_n (pc' := 78) dX11_coinsFor_77 rfl rfl ?_
            refine gj_iload (pc' := 80) dX11_coinsFor_78 rfl rfl ?_
            refine gr_X11_314 (pc' := 83) dX11_coinsFor_80 rfl (m_leftsOf (m := k) hM (by omega)) rfl (by first | rfl | assumption) (by decide) rfl (Nat.le_of_ble_eq_true rfl) ?_
            refine gj_istore_n (pc' := 84) dX11_coinsFor_83 rfl (by decide) ?_
            refine gj_iinc (pc' := 87) dX11_coinsFor_84 rfl rfl (by decide) ?_
            refine gj_goto (pc' := 32) dX11_coinsFor_87 (by decide) ?_
            refine gJ_wk (ih_k ?x_4 (by omega) ?iv_4) ?ll_4
            case ll_4 =>
              repeat' (first | exact True.intro | with_reducible exact rfl | refine And.intro ?_ ?_ | refine vI ?_ | refine vL ?_)
              all_goals omega
            have hs2 := hsub (by omega)
            rw [es]
            unfold cStep
            split <;> omega
          · first | have g64 := of_decide_eq_true c64 | have g64 := of_decide_eq_false c64 | skip
            refine gj_aload_n (pc' := 68) dX11_coinsFor_67 rfl rfl ?_
            refine gj_iload (pc' := 70) dX11_coinsFor_68 rfl rfl ?_
            refine gr_X11_314 (pc' := 73) dX11_coinsFor_70 rfl (m_leftsOf (m := k) hM (by omega)) rfl (by first | rfl | assumption) (by decide) rfl (Nat.le_of_ble_eq_true rfl) ?_
            refine gj_iload_n (pc' := 74) dX11_coinsFor_73 rfl rfl ?_
            refine gj_icmp_ge (pc' := 77) (tgt := 84) dX11_coinsFor_74 (by decide) rfl (by omega) (fun c74 => ?_) (fun c74 => ?_)
            · refine gj_iinc (pc' := 87) dX11_coinsFor_84 rfl rfl (by decide) ?_
              refine gj_goto (pc' := 32) dX11_coinsFor_87 (by decide) ?_
              refine gJ_wk (ih_k ?x_5 (by omega) ?iv_5) ?ll_5
              case ll_5 =>
                repeat' (first | exact True.intro | with_reducible exact rfl | refine And.intro ?_ ?_ | refine vI ?_ | refine vL ?_)
                all_goals omega
              have hs2 := hsub (by omega)
              rw [es]
              unfold cStep
              split <;> omega
            · refine gj_aload_n (pc' := 78) dX11_coinsFor_77 rfl rfl ?_
              refine gj_iload (pc' := 80) dX11_coinsFor_78 rfl rfl ?_
              refine gr_X11_314 (pc' := 83) dX11_coinsFor_80 rfl (m_leftsOf (m := k) hM (by omega)) rfl (by first | rfl | assumption) (by decide) rfl (Nat.le_of_ble_eq_true rfl) ?_
              refine gj_istore_n (pc' := 84) dX11_coinsFor_83 rfl (by decide) ?_
              refine gj_iinc (pc' := 87) dX11_coinsFor_84 rfl rfl (by decide) ?_
              refine gj_goto (pc' := 32) dX11_coinsFor_87 (by decide) ?_
              refine gJ_wk (ih_k ?x_6 (by omega) ?iv_6) ?ll_6
              case ll_6 =>
                repeat' (first | exact True.intro | with_reducible exact rfl | refine And.intro ?_ ?_ | refine vI ?_ | refine vL ?_)
                all_goals omega
              have hs2 := hsub (by omega)
              rw [es]
              unfold cStep
              split <;> omega
  · first | have g17 := of_decide_eq_true c17 | have g17 := of_decide_eq_false c17 | skip
    refine gj_aload_n (pc' := 21) dX11_coinsFor_20 rfl rfl ?_
    refine gj_iload_n (pc' := 22) dX11_coinsFor_21 rfl rfl ?_
    refine gc_X11_156 (pc' := 25) dX11_coinsFor_22 rfl (m_no) rfl (by first | rfl | assumption) (by decide) rfl (Nat.le_of_ble_eq_true rfl) (fun v9 h9 q9 => ?_)
    obtain ⟨rfl, rfl⟩ := q9
    show gJ _ _ _ _ _ _ _ (.int (zI (-1)) :: _) _ _
    refine gj_iret rfl dX11_coinsFor_25 ?_
    first | exact qM_g (by unfold aToN; (try simp only [Int.toNat_natCast]); repeat' (first | (exfalso; omega) | split | rfl | (congr 1; omega) | simp_all)) | exact qM_n (by unfold aToN; (try simp only [Int.toNat_natCast]); repeat' (first | (exfalso; omega) | split | rfl | (congr 1; omega) | simp_all))
theorem m_payable {h : gH} {T S : Nat → Nat} {a : Int} (hQ : mQ h T S) (ha : inB a) : gSp 12 yX11_payable cX11_payable 6 (some .int) [.ref 142, .int (zI a)] h (qM (aHo T a (fun n => (lBest T S (sAg T S n) (S (13 + n)) (sAg T S n) : Nat))).1 (aHo T a (fun n => (lBest T S (sAg T S n) (S (13 + n)) (sAg T S n) : Nat))).2 h) := by
  obtain ⟨hA, hH, hZ, -⟩ := id hQ
  have hH2 : (mG h).1 142 14 = bI (decide (T 3 ≠ 0)) := hH
  have ha2 := ha
  unfold inB at ha2
  refine gSp_of (by decide +kernel) (Nat.le_of_ble_eq_true rfl) ?_
  show gJ RX11 cX11_payable 6 (some .int) _ 0 [some (.ref 142), some (.int (zI a)), none, none, none, none] [] _ _
  refine gj_aload_n (pc' := 1) dX11_payable_0 rfl rfl ?_
  refine gc_X11_153 (pc' := 4) dX11_payable_1 rfl (m_good) rfl (by first | rfl | assumption) (by decide) rfl (Nat.le_of_ble_eq_true rfl) (fun v9 h9 q9 => ?_)
  obtain ⟨rfl, rfl⟩ := q9
  show gJ _ _ _ _ _ _ _ [] _ _
  refine gj_aload_n (pc' := 5) dX11_payable_4 rfl rfl ?_
  refine gj_iload_n (pc' := 6) dX11_payable_5 rfl rfl ?_
  refine gr_X11_277 (pc' := 9) dX11_payable_6 rfl (m_isHouseQ hQ.g ha) rfl (by first | rfl | assumption) (by decide) rfl (Nat.le_of_ble_eq_true rfl) ?_
  first | refine gj_ifB_ne (pc' := 12) (tgt := 18) dX11_payable_9 (by decide) rfl (fun c9 => ?_) (fun c9 => ?_) | refine gj_if_ne (pc' := 12) (tgt := 18) dX11_payable_9 (by decide) rfl (by omega) (fun c9 => ?_) (fun c9 => ?_)
  · first | have g9 := of_decide_eq_true c9 | have g9 := of_decide_eq_false c9 | skip
    obtain ⟨n, rfl⟩ : ∃ n : Nat, a = (n : Int) := ⟨a.toNat, by omega⟩
    have hM : MI (mG h) T S := hQ.mi (by omega)
    obtain ⟨hA2, hT, hS⟩ := id hM
    have h3 := hT.2.2.2.1
    have h4 : T 4 ≤ 7 := hT.2.2.2.2.1
    have hd := hS.2.2.1
    have g19 := sv19 hT hS
    have hco := hS.2.2.2.2 n (by omega)
    have hag : sAg T S n < 128 := Nat.lt_of_lt_of_le (bN_lt _ _) (Nat.pow_le_pow_right (n := 2) (by omega) h4)
    refine gj_aload_n (pc' := 19) dX11_payable_18 rfl rfl ?_
    refine gj_iload_n (pc' := 20) dX11_payable_19 rfl rfl ?_
    refine gr_X11_283 (pc' := 23) dX11_payable_20 rfl (m_against hM (by omega)) rfl (by first | rfl | assumption) (by decide) rfl (Nat.le_of_ble_eq_true rfl) ?_
    skip
    refine gj_istore_n (pc' := 24) dX11_payable_23 rfl (by decide) ?_
    refine gj_iconst (pc' := 25) dX11_payable_24 rfl ?_
    refine gj_istore_n (pc' := 26) dX11_payable_25 rfl (by decide) ?_
    refine gj_iconst (pc' := 27) dX11_payable_26 rfl ?_
    refine gj_istore (pc' := 29) dX11_payable_27 rfl (by decide) ?_
    refine gJ_wk (gJ_fI1 (L := fun k x => [some (.ref 142), some (.int (zI (n : Int))), some (.int (zI (sAg T S n : Nat))), some (.int (zI x)), some (.int (zI (k : Int))), none]) (I := fun k x => x = ((lBest T S (sAg T S n) (S (13 + n)) (k - 1) : Nat) : Int)) (sAg T S n + 1) (fun k x hb_k iv_k ih_k => ?step_1) (0) (Nat.zero_le _) ?x0_1 ?iv0_1) ?ll0_1
    case ll0_1 =>
      repeat' (first | exact True.intro | with_reducible exact rfl | refine And.intro ?_ ?_ | refine vI ?_ | refine vL ?_)
      all_goals first | rfl | omega
    case iv0_1 =>
      rfl
    have e0 : k = 0 → lBest T S (sAg T S n) (S (13 + n)) (k + 1 - 1) = lBest T S (sAg T S n) (S (13 + n)) (k - 1) ∧ lBest T S (sAg T S n) (S (13 + n)) (k - 1) = 0 := fun q => by subst q; exact ⟨rfl, rfl⟩
    have es : 0 < k → lBest T S (sAg T S n) (S (13 + n)) (k + 1 - 1) = lStep T S (sAg T S n) (S (13 + n)) k (lBest T S (sAg T S n) (S (13 + n)) (k - 1)) := fun q => by obtain ⟨j, rfl⟩ : ∃ j, k = j + 1 := ⟨k - 1, by omega⟩; rfl
    have lx := lBest_le T S (sAg T S n) (S (13 + n)) (k - 1)
    have ec : sAg T S n + 1 = k → lBest T S (sAg T S n) (S (13 + n)) (sAg T S n) = lBest T S (sAg T S n) (S (13 + n)) (k - 1) := fun q => by rw [← q]; rfl
    subst iv_k
    generalize lBest T S (sAg T S n) (S (13 + n)) (k - 1) = x at es e0 lx ec ⊢
    have b1 := sSum_le (S := S) hT k
    have b2 := sSum_le (S := S) hT x
    have b3 := pcN_le k
    have b4 := pcN_le x
    have b5 := nWo_le k (sAg T S n)
    have k0 : k = 0 → pcN k = 0 ∧ sSum T S k = 0 := fun q => by subst q; exact ⟨by decide +kernel, sSum_0 T S⟩
    have x0 : x = 0 → pcN x = 0 ∧ sSum T S x = 0 := fun q => by subst q; exact ⟨by decide +kernel, sSum_0 T S⟩
    refine gj_iload (pc' := 31) dX11_payable_29 rfl rfl ?_
    refine gj_iload_n (pc' := 32) dX11_payable_31 rfl rfl ?_
    refine gj_icmp_gt (pc' := 35) (tgt := 110) dX11_payable_32 (by decide) rfl (by omega) (fun c32 => ?_) (fun c32 => ?_)
    · refine gj_iload_n (pc' := 111) dX11_payable_110 rfl rfl ?_
      refine gj_iret rfl dX11_payable_111 ?_
      exact qM_g (by unfold aHo; rw [if_pos (by omega)]; simp only [Int.toNat_natCast]; rw [ec (by omega)])
    · refine gj_iload (pc' := 37) dX11_payable_35 rfl rfl ?_
      refine gj_iload_n (pc' := 38) dX11_payable_37 rfl rfl ?_
      refine gj_iconst (pc' := 39) dX11_payable_38 rfl ?_
      refine gj_ixor (pc' := 40) dX11_payable_39 rfl ?_
      refine gj_iand (pc' := 41) dX11_payable_40 rfl ?_
      rw [bt_wo (by omega) (by omega)]
      refine gj_if_ne (pc' := 44) (tgt := 104) dX11_payable_41 (by decide) rfl (by omega) (fun c41 => ?_) (fun c41 => ?_)
      · first | have g41 := of_decide_eq_true c41 | have g41 := of_decide_eq_false c41 | skip
        refine gj_iinc (pc' := 107) dX11_payable_104 rfl rfl (by decide) ?_
        refine gj_goto (pc' := 29) dX11_payable_107 (by decide) ?_
        refine gJ_wk (ih_k ?x_2 (by omega) ?iv_2) ?ll_2
        case ll_2 =>
          repeat' (first | exact True.intro | with_reducible exact rfl | refine And.intro ?_ ?_ | refine vI ?_ | refine vL ?_)
          all_goals omega
        rcases Nat.eq_zero_or_pos k with q | q
        · have := e0 q; have := k0 q; have := x0 (by omega); omega
        · rw [es q]; unfold lStep; split <;> omega
      · first | have g41 := of_decide_eq_true c41 | have g41 := of_decide_eq_false c41 | skip
        refine gj_aload_n (pc' := 45) dX11_payable_44 rfl rfl ?_
        refine gj_iload (pc' := 47) dX11_payable_45 rfl rfl ?_
        refine gr_X11_314 (pc' := 50) dX11_payable_47 rfl (m_leftsOf (m := k) hM (by omega)) rfl (by first | rfl | assumption) (by decide) rfl (Nat.le_of_ble_eq_true rfl) ?_
        refine gj_aload_n (pc' := 51) dX11_payable_50 rfl rfl ?_
        refine gf_X11_26 (pc' := 54) dX11_payable_51 rfl (by first | rfl | assumption) rfl ?_
        refine gj_bipush (pc' := 56) dX11_payable_54 rfl (by decide) ?_
        refine gj_iload_n (pc' := 57) dX11_payable_56 rfl rfl ?_
        refine gj_iadd (pc' := 58) dX11_payable_57 rfl ?_
        refine gj_iald (pc' := 59) (j := 13 + n) (by first | rfl | assumption) (by omega) (by omega) (by decide) dX11_payable_58 rfl ?_
        rw [hA2.2 _ (by omega)]
        refine gj_icmp_le (pc' := 62) (tgt := 65) dX11_payable_59 (by decide) rfl (by omega) (fun c59 => ?_) (fun c59 => ?_)
        · refine gj_iload (pc' := 67) dX11_payable_65 rfl rfl ?_
          refine gr_X11_295 (pc' := 70) dX11_payable_67 rfl (m_ones (m := k) (by omega)) rfl (by decide) rfl (Nat.le_of_ble_eq_true rfl) ?_
          refine gj_iload_n (pc' := 71) dX11_payable_70 rfl rfl ?_
          refine gr_X11_295 (pc' := 74) dX11_payable_71 rfl (m_ones (m := x) (by omega)) rfl (by decide) rfl (Nat.le_of_ble_eq_true rfl) ?_
          refine gj_isub (pc' := 75) dX11_payable_74 rfl ?_
          refine gj_istore (pc' := 77) dX11_payable_75 rfl (by decide) ?_
          refine gj_iload (pc' := 79) dX11_payable_77 rfl rfl ?_
          refine gj_if_gt (pc' := 82) (tgt := 101) dX11_payable_79 (by decide) rfl (by omega) (fun c79 => ?_) (fun c79 => ?_)
          · first | have g79 := of_decide_eq_true c79 | have g79 := of_decide_eq_false c79 | skip
            refine gj_iload (pc' := 103) dX11_payable_101 rfl rfl ?_
            refine gj_istore_n (pc' := 104) dX11_payable_103 rfl (by decide) ?_
            refine gj_iinc (pc' := 107) dX11_payable_104 rfl rfl (by decide) ?_
            refine gj_goto (pc' := 29) dX11_payable_107 (by decide) ?_
            refine gJ_wk (ih_k ?x_3 (by omega) ?iv_3) ?ll_3
            case ll_3 =>
              repeat' (first | exact True.intro | with_reducible exact rfl | refine And.intro ?_ ?_ | refine vI ?_ | refine vL ?_)
              all_goals omega
            rcases Nat.eq_zero_or_pos k with q | q
            · have := e0 q; have := k0 q; have := x0 (by omega); omega
            · rw [es q]; unfold lStep; split <;> omega
          · first | have g79 := of_decide_eq_true c79 | have g79 := of_decide_eq_false c79 | skip
            refine gj_iload (pc' := 84) dX11_payable_82 rfl rfl ?_
            refine gj_if_ne (pc' := 87) (tgt := 104) dX11_payable_84 (by decide) rfl (by omega) (fun c84 => ?_) (fun c84 => ?_)
            · first | have g84 := of_decide_eq_true c84 | have g84 := of_decide_eq_false c84 | skip
              refine gj_iinc (pc' := 107) dX11_payable_104 rfl rfl (by decide) ?_
              refine gj_goto (pc' := 29) dX11_payable_107 (by decide) ?_
              refine gJ_wk (ih_k ?x_4 (by omega) ?iv_4) ?ll_4
              case ll_4 =>
                repeat' (first | exact True.intro | with_reducible exact rfl | refine And.intro ?_ ?_ | refine vI ?_ | refine vL ?_)
                all_goals omega
              rcases Nat.eq_zero_or_pos k with q | q
              · have := e0 q; have := k0 q; have := x0 (by omega); omega
              · rw [es q]; unfold lStep; split <;> omega
            · first | have g84 := of_decide_eq_true c84 | have g84 := of_decide_eq_false c84 | skip
              refine gj_aload_n (pc' := 88) dX11_payable_87 rfl rfl ?_
              refine gj_iload (pc' := 90) dX11_payable_88 rfl rfl ?_
              refine gr_X11_314 (pc' := 93) dX11_payable_90 rfl (m_leftsOf (m := k) hM (by omega)) rfl (by first | rfl | assumption) (by decide) rfl (Nat.le_of_ble_eq_true rfl) ?_
              refine gj_aload_n (pc' := 94) dX11_payable_93 rfl rfl ?_
              refine gj_iload_n (pc' := 95) dX11_payable_94 rfl rfl ?_
              refine gr_X11_314 (pc' := 98) dX11_payable_95 rfl (m_leftsOf (m := x) hM (by omega)) rfl (by first | rfl | assumption) (by decide) rfl (Nat.le_of_ble_eq_true rfl) ?_
              refine gj_icmp_ge (pc' := 101) (tgt := 104) dX11_payable_98 (by decide) rfl (by omega) (fun c98 => ?_) (fun c98 => ?_)
              · refine gj_iinc (pc' := 107) dX11_payable_104 rfl rfl (by decide) ?_
                refine gj_goto (pc' := 29) dX11_payable_107 (by decide) ?_
                refine gJ_wk (ih_k ?x_5 (by omega) ?iv_5) ?ll_5
                case ll_5 =>
                  repeat' (first | exact True.intro | with_reducible exact rfl | refine And.intro ?_ ?_ | refine vI ?_ | refine vL ?_)
                  all_goals omega
                rcases Nat.eq_zero_or_pos k with q | q
                · have := e0 q; have := k0 q; have := x0 (by omega); omega
                · rw [es q]; unfold lStep; split <;> omega
              · refine gj_iload (pc' := 103) dX11_payable_101 rfl rfl ?_
                refine gj_istore_n (pc' := 104) dX11_payable_103 rfl (by decide) ?_
                refine gj_iinc (pc' := 107) dX11_payable_104 rfl rfl (by decide) ?_
                refine gj_goto (pc' := 29) dX11_payable_107 (by decide) ?_
                refine gJ_wk (ih_k ?x_6 (by omega) ?iv_6) ?ll_6
                case ll_6 =>
                  repeat' (first | exact True.intro | with_reducible exact rfl | refine And.intro ?_ ?_ | refine vI ?_ | refine vL ?_)
                  all_goals omega
                rcases Nat.eq_zero_or_pos k with q | q
                · have := e0 q; have := k0 q; have := x0 (by omega); omega
                · rw [es q]; unfold lStep; split <;> omega
        · refine gj_goto (pc' := 104) dX11_payable_62 (by decide) ?_
          refine gj_iinc (pc' := 107) dX11_payable_104 rfl rfl (by decide) ?_
          refine gj_goto (pc' := 29) dX11_payable_107 (by decide) ?_
          refine gJ_wk (ih_k ?x_7 (by omega) ?iv_7) ?ll_7
          case ll_7 =>
            repeat' (first | exact True.intro | with_reducible exact rfl | refine And.intro ?_ ?_ | refine vI ?_ | refine vL ?_)
            all_goals omega
          rcases Nat.eq_zero_or_pos k with q | q
          · have := e0 q; have := k0 q; have := x0 (by omega); omega
          · rw [es q]; unfold lStep; split <;> omega
  · first | have g9 := of_decide_eq_true c9 | have g9 := of_decide_eq_false c9 | skip
    refine gj_aload_n (pc' := 13) dX11_payable_12 rfl rfl ?_
    refine gj_iconst (pc' := 14) dX11_payable_13 rfl ?_
    refine gc_X11_156 (pc' := 17) dX11_payable_14 rfl (m_no) rfl (by first | rfl | assumption) (by decide) rfl (Nat.le_of_ble_eq_true rfl) (fun v9 h9 q9 => ?_)
    obtain ⟨rfl, rfl⟩ := q9
    show gJ _ _ _ _ _ _ _ (.int (zI (-1)) :: _) _ _
    refine gj_iret rfl dX11_payable_17 ?_
    first | exact qM_g (by unfold aHo; (try simp only [Int.toNat_natCast]); repeat' (first | (exfalso; omega) | split | rfl | (congr 1; omega) | simp_all)) | exact qM_n (by unfold aHo; (try simp only [Int.toNat_natCast]); repeat' (first | (exfalso; omega) | split | rfl | (congr 1; omega) | simp_all))
theorem m_bestMeeting {h : gH} {T S : Nat → Nat} (hQ : mQ h T S) : gSp 12 yX11_bestMeeting cX11_bestMeeting 6 (some .int) [.ref 142] h (qM (aTown T (bOut T S (T 4)).1).1 (aTown T (bOut T S (T 4)).1).2 h) := by
  obtain ⟨hA, hH, hZ, -⟩ := id hQ
  have hH2 : (mG h).1 142 14 = bI (decide (T 3 ≠ 0)) := hH
  refine gSp_of (by decide +kernel) (Nat.le_of_ble_eq_true rfl) ?_
  show gJ RX11 cX11_bestMeeting 6 (some .int) _ 0 [some (.ref 142), none, none, none, none, none] [] _ _
  refine gj_aload_n (pc' := 1) dX11_bestMeeting_0 rfl rfl ?_
  refine gc_X11_153 (pc' := 4) dX11_bestMeeting_1 rfl (m_good) rfl (by first | rfl | assumption) (by decide) rfl (Nat.le_of_ble_eq_true rfl) (fun v9 h9 q9 => ?_)
  obtain ⟨rfl, rfl⟩ := q9
  show gJ _ _ _ _ _ _ _ [] _ _
  refine gj_aload_n (pc' := 5) dX11_bestMeeting_4 rfl rfl ?_
  refine gf_X11_166 (pc' := 8) dX11_bestMeeting_5 rfl (by first | rfl | assumption) rfl ?_
  rw [hH2]
  first | refine gj_ifB_ne (pc' := 11) (tgt := 17) dX11_bestMeeting_8 (by decide) rfl (fun c8 => ?_) (fun c8 => ?_) | refine gj_if_ne (pc' := 11) (tgt := 17) dX11_bestMeeting_8 (by decide) rfl (by omega) (fun c8 => ?_) (fun c8 => ?_)
  · first | have g8 := of_decide_eq_true c8 | have g8 := of_decide_eq_false c8 | skip
    have hM : MI (mG h) T S := hQ.mi (by omega)
    obtain ⟨hA2, hT, hS⟩ := id hM
    have h3 := hT.2.2.2.1
    have h4 : T 4 ≤ 7 := hT.2.2.2.2.1
    have hd := hS.2.2.1
    have g19 := sv19 hT hS
    refine gj_bipush (pc' := 19) dX11_bestMeeting_17 rfl (by decide) ?_
    refine gj_istore_n (pc' := 20) dX11_bestMeeting_19 rfl (by decide) ?_
    refine gj_iconst (pc' := 21) dX11_bestMeeting_20 rfl ?_
    refine gj_istore_n (pc' := 22) dX11_bestMeeting_21 rfl (by decide) ?_
    refine gj_iconst (pc' := 23) dX11_bestMeeting_22 rfl ?_
    refine gj_istore_n (pc' := 24) dX11_bestMeeting_23 rfl (by decide) ?_
    refine gJ_wk (gJ_fI2 (L := fun b x y => [some (.ref 142), some (.int (zI x)), some (.int (zI y)), some (.int (zI (b : Int))), none, none]) (I := fun b x y => x = (bOut T S b).1 ∧ y = (bOut T S b).2) (T 4) (fun b x y hb_b iv_b ih_b => ?step_1) (0) (Nat.zero_le _) ?x0_1 ?y0_1 ?iv0_1) ?ll0_1
    case ll0_1 =>
      repeat' (first | exact True.intro | with_reducible exact rfl | refine And.intro ?_ ?_ | refine vI ?_ | refine vL ?_)
      all_goals first | rfl | omega
    case iv0_1 =>
      exact ⟨rfl, rfl⟩
    have eo : bOut T S (b + 1) = bIn T S b (bOut T S b) (T 4) := rfl
    have ho := bOut_ok (S := S) hT hb_b
    refine gj_iload_n (pc' := 25) dX11_bestMeeting_24 rfl rfl ?_
    refine gj_aload_n (pc' := 26) dX11_bestMeeting_25 rfl rfl ?_
    refine gf_X11_20 (pc' := 29) dX11_bestMeeting_26 rfl (by first | rfl | assumption) rfl ?_
    refine gj_iconst (pc' := 30) dX11_bestMeeting_29 rfl ?_
    refine gj_iald (pc' := 31) (j := 4) (by first | rfl | assumption) (by omega) (by omega) (by decide) dX11_bestMeeting_30 rfl ?_
    rw [hA2.1 4 (by omega)]
    refine gj_icmp_ge (pc' := 34) (tgt := 118) dX11_bestMeeting_31 (by decide) rfl (by omega) (fun c31 => ?_) (fun c31 => ?_)
    · refine gj_iload_n (pc' := 119) dX11_bestMeeting_118 rfl rfl ?_
      refine gj_iret rfl dX11_bestMeeting_119 ?_
      exact qM_g (by unfold aTown; rw [if_pos (by omega), show T 4 = b by omega, iv_b.1])
    · refine gj_iload_n (pc' := 35) dX11_bestMeeting_34 rfl rfl ?_
      refine gj_iconst (pc' := 36) dX11_bestMeeting_35 rfl ?_
      refine gj_iadd (pc' := 37) dX11_bestMeeting_36 rfl ?_
      refine gj_istore (pc' := 39) dX11_bestMeeting_37 rfl (by decide) ?_
      refine gJ_wk (gJ_fI2 (L := fun c x2 y2 => [some (.ref 142), some (.int (zI x2)), some (.int (zI y2)), some (.int (zI (b : Int))), some (.int (zI (c : Int))), none]) (I := fun c x2 y2 => b < c ∧ x2 = (bIn T S b (bOut T S b) c).1 ∧ y2 = (bIn T S b (bOut T S b) c).2) (T 4) (fun c x2 y2 hb_c iv_c ih_c => ?step_2) (b + 1) (by omega) ?x20_2 ?y20_2 ?iv0_2) ?ll0_2
      case ll0_2 =>
        repeat' (first | exact True.intro | with_reducible exact rfl | refine And.intro ?_ ?_ | refine vI ?_ | refine vL ?_)
        all_goals first | rfl | omega
      case iv0_2 =>
        exact ⟨by omega, by rw [bIn_lo T S b _ (b + 1) (Nat.le_refl _)]; exact iv_b⟩
      have es := bIn_s T S b (bOut T S b) c
      have hk := bIn_ok (S := S) hT (b := b) (by omega) ho (n := c) hb_c
      obtain ⟨hbc, hx2, hy2⟩ := iv_c
      have ec : T 4 = c → bIn T S b (bOut T S b) (T 4) = bIn T S b (bOut T S b) c := fun q => congrArg _ q
      generalize bIn T S b (bOut T S b) c = p at es hk hx2 hy2 ec
      obtain ⟨p1, p2⟩ := p
      simp only at es hx2 hy2
      have hk2 : (p1 = -2 ∧ p2 = -1) ∨ (0 ≤ p1 ∧ 0 ≤ p2 ∧ p2 ≤ 240 ∧ p1 ≤ 100) := hk
      have d1 := nD_le2 (tLe T S b) (tLe T S c)
      have d2 : sSp T S b c = tLe T S b + tLe T S c - nD (tLe T S b) (tLe T S c) := rfl
      have d3 := tLe_le (S := S) hT (b := b) (by omega)
      have d4 := fun q : c < T 4 => tLe_le (S := S) hT (b := c) q
      refine gj_iload (pc' := 41) dX11_bestMeeting_39 rfl rfl ?_
      refine gj_aload_n (pc' := 42) dX11_bestMeeting_41 rfl rfl ?_
      refine gf_X11_20 (pc' := 45) dX11_bestMeeting_42 rfl (by first | rfl | assumption) rfl ?_
      refine gj_iconst (pc' := 46) dX11_bestMeeting_45 rfl ?_
      refine gj_iald (pc' := 47) (j := 4) (by first | rfl | assumption) (by omega) (by omega) (by decide) dX11_bestMeeting_46 rfl ?_
      rw [hA2.1 4 (by omega)]
      refine gj_icmp_ge (pc' := 50) (tgt := 112) dX11_bestMeeting_47 (by decide) rfl (by omega) (fun c47 => ?_) (fun c47 => ?_)
      · refine gj_iinc (pc' := 115) dX11_bestMeeting_112 rfl rfl (by decide) ?_
        refine gj_goto (pc' := 24) dX11_bestMeeting_115 (by decide) ?_
        refine gJ_wk (ih_b ?x_3 ?y_3 (by omega) ?iv_3) ?ll_3
        case ll_3 =>
          repeat' (first | exact True.intro | with_reducible exact rfl | refine And.intro ?_ ?_ | refine vI ?_ | refine vL ?_)
          all_goals omega
        rw [eo, ec (by omega)]
        exact ⟨hx2, hy2⟩
      · refine gj_aload_n (pc' := 51) dX11_bestMeeting_50 rfl rfl ?_
        refine gj_iload_n (pc' := 52) dX11_bestMeeting_51 rfl rfl ?_
        refine gj_iload (pc' := 54) dX11_bestMeeting_52 rfl rfl ?_
        refine gr_X11_305 (pc' := 57) dX11_bestMeeting_54 rfl (m_canMeet hM (by omega) (by omega)) rfl (by first | rfl | assumption) (by decide) rfl (Nat.le_of_ble_eq_true rfl) ?_
        first | refine gj_ifB_eq (pc' := 60) (tgt := 83) dX11_bestMeeting_57 (by decide) rfl (fun c57 => ?_) (fun c57 => ?_) | refine gj_if_eq (pc' := 60) (tgt := 83) dX11_bestMeeting_57 (by decide) rfl (by omega) (fun c57 => ?_) (fun c57 => ?_)
        · first | have g57 := of_decide_eq_true c57 | have g57 := of_decide_eq_false c57 | skip
          refine gj_iconst (pc' := 84) dX11_bestMeeting_83 rfl ?_
          refine gj_istore (pc' := 86) dX11_bestMeeting_84 rfl (by decide) ?_
          refine gj_iload (pc' := 88) dX11_bestMeeting_86 rfl rfl ?_
          refine gj_iload_n (pc' := 89) dX11_bestMeeting_88 rfl rfl ?_
          refine gj_icmp_gt (pc' := 92) (tgt := 95) dX11_bestMeeting_89 (by decide) rfl (by omega) (fun c89 => ?_) (fun c89 => ?_)
          · refine gj_bipush (pc' := 97) dX11_bestMeeting_95 rfl (by decide) ?_
            refine gj_iload_n (pc' := 98) dX11_bestMeeting_97 rfl rfl ?_
            refine gj_imul (pc' := 99) dX11_bestMeeting_98 rfl ?_
            refine gj_iload (pc' := 101) dX11_bestMeeting_99 rfl rfl ?_
            refine gj_iadd (pc' := 102) dX11_bestMeeting_101 rfl ?_
            refine gj_istore_n (pc' := 103) dX11_bestMeeting_102 rfl (by decide) ?_
            refine gj_iload (pc' := 105) dX11_bestMeeting_103 rfl rfl ?_
            refine gj_istore_n (pc' := 106) dX11_bestMeeting_105 rfl (by decide) ?_
            refine gj_iinc (pc' := 109) dX11_bestMeeting_106 rfl rfl (by decide) ?_
            refine gj_goto (pc' := 39) dX11_bestMeeting_109 (by decide) ?_
            refine gJ_wk (ih_c ?x2_4 ?y2_4 (by omega) ?iv_4) ?ll_4
            case ll_4 =>
              repeat' (first | exact True.intro | with_reducible exact rfl | refine And.intro ?_ ?_ | refine vI ?_ | refine vL ?_)
              all_goals omega
            refine ⟨by omega, ?_⟩
            rw [es, c57]
            simp only [true_and, Bool.false_eq_true, false_and, and_false, if_false, reduceIte]
            (try split) <;> (try dsimp only) <;> (constructor <;> omega)
          · refine gj_goto (pc' := 106) dX11_bestMeeting_92 (by decide) ?_
            refine gj_iinc (pc' := 109) dX11_bestMeeting_106 rfl rfl (by decide) ?_
            refine gj_goto (pc' := 39) dX11_bestMeeting_109 (by decide) ?_
            refine gJ_wk (ih_c ?x2_5 ?y2_5 (by omega) ?iv_5) ?ll_5
            case ll_5 =>
              repeat' (first | exact True.intro | with_reducible exact rfl | refine And.intro ?_ ?_ | refine vI ?_ | refine vL ?_)
              all_goals omega
            refine ⟨by omega, ?_⟩
            rw [es, c57]
            simp only [true_and, Bool.false_eq_true, false_and, and_false, if_false, reduceIte]
            (try split) <;> (try dsimp only) <;> (constructor <;> omega)
        · first | have g57 := of_decide_eq_true c57 | have g57 := of_decide_eq_false c57 | skip
          refine gj_aload_n (pc' := 61) dX11_bestMeeting_60 rfl rfl ?_
          refine gj_iload_n (pc' := 62) dX11_bestMeeting_61 rfl rfl ?_
          refine gr_X11_274 (pc' := 65) dX11_bestMeeting_62 rfl (m_leftOf hM (by omega)) rfl (by first | rfl | assumption) (by decide) rfl (Nat.le_of_ble_eq_true rfl) ?_
          refine gj_aload_n (pc' := 66) dX11_bestMeeting_65 rfl rfl ?_
          refine gj_iload (pc' := 68) dX11_bestMeeting_66 rfl rfl ?_
          refine gr_X11_274 (pc' := 71) dX11_bestMeeting_68 rfl (m_leftOf hM (by omega)) rfl (by first | rfl | assumption) (by decide) rfl (Nat.le_of_ble_eq_true rfl) ?_
          refine gj_iadd (pc' := 72) dX11_bestMeeting_71 rfl ?_
          refine gj_aload_n (pc' := 73) dX11_bestMeeting_72 rfl rfl ?_
          refine gj_iload_n (pc' := 74) dX11_bestMeeting_73 rfl rfl ?_
          refine gj_iload (pc' := 76) dX11_bestMeeting_74 rfl rfl ?_
          refine gr_X11_311 (pc' := 79) dX11_bestMeeting_76 rfl (m_meetingOf hM (by omega) (by omega)) rfl (by first | rfl | assumption) (by decide) rfl (Nat.le_of_ble_eq_true rfl) ?_
          refine gj_isub (pc' := 80) dX11_bestMeeting_79 rfl ?_
          refine gj_goto (pc' := 84) dX11_bestMeeting_80 (by decide) ?_
          refine gj_istore (pc' := 86) dX11_bestMeeting_84 rfl (by decide) ?_
          refine gj_iload (pc' := 88) dX11_bestMeeting_86 rfl rfl ?_
          refine gj_iload_n (pc' := 89) dX11_bestMeeting_88 rfl rfl ?_
          refine gj_icmp_gt (pc' := 92) (tgt := 95) dX11_bestMeeting_89 (by decide) rfl (by omega) (fun c89 => ?_) (fun c89 => ?_)
          · refine gj_bipush (pc' := 97) dX11_bestMeeting_95 rfl (by decide) ?_
            refine gj_iload_n (pc' := 98) dX11_bestMeeting_97 rfl rfl ?_
            refine gj_imul (pc' := 99) dX11_bestMeeting_98 rfl ?_
            refine gj_iload (pc' := 101) dX11_bestMeeting_99 rfl rfl ?_
            refine gj_iadd (pc' := 102) dX11_bestMeeting_101 rfl ?_
            refine gj_istore_n (pc' := 103) dX11_bestMeeting_102 rfl (by decide) ?_
            refine gj_iload (pc' := 105) dX11_bestMeeting_103 rfl rfl ?_
            refine gj_istore_n (pc' := 106) dX11_bestMeeting_105 rfl (by decide) ?_
            refine gj_iinc (pc' := 109) dX11_bestMeeting_106 rfl rfl (by decide) ?_
            refine gj_goto (pc' := 39) dX11_bestMeeting_109 (by decide) ?_
            refine gJ_wk (ih_c ?x2_6 ?y2_6 (by omega) ?iv_6) ?ll_6
            case ll_6 =>
              repeat' (first | exact True.intro | with_reducible exact rfl | refine And.intro ?_ ?_ | refine vI ?_ | refine vL ?_)
              all_goals omega
            refine ⟨by omega, ?_⟩
            rw [es, c57]
            simp only [true_and, Bool.false_eq_true, false_and, and_false, if_false, reduceIte]
            (try split) <;> (try dsimp only) <;> (constructor <;> omega)
          · refine gj_goto (pc' := 106) dX11_bestMeeting_92 (by decide) ?_
            refine gj_iinc (pc' := 109) dX11_bestMeeting_106 rfl rfl (by decide) ?_
            refine gj_goto (pc' := 39) dX11_bestMeeting_109 (by decide) ?_
            refine gJ_wk (ih_c ?x2_7 ?y2_7 (by omega) ?iv_7) ?ll_7
            case ll_7 =>
              repeat' (first | exact True.intro | with_reducible exact rfl | refine And.intro ?_ ?_ | refine vI ?_ | refine vL ?_)
              all_goals omega
            refine ⟨by omega, ?_⟩
            rw [es, c57]
            simp only [true_and, Bool.false_eq_true, false_and, and_false, if_false, reduceIte]
            (try split) <;> (try dsimp only) <;> (constructor <;> omega)
  · first | have g8 := of_decide_eq_true c8 | have g8 := of_decide_eq_false c8 | skip
    refine gj_aload_n (pc' := 12) dX11_bestMeeting_11 rfl rfl ?_
    refine gj_iconst (pc' := 13) dX11_bestMeeting_12 rfl ?_
    refine gc_X11_156 (pc' := 16) dX11_bestMeeting_13 rfl (m_no) rfl (by first | rfl | assumption) (by decide) rfl (Nat.le_of_ble_eq_true rfl) (fun v9 h9 q9 => ?_)
    obtain ⟨rfl, rfl⟩ := q9
    show gJ _ _ _ _ _ _ _ (.int (zI (-1)) :: _) _ _
    refine gj_iret rfl dX11_bestMeeting_16 ?_
    first | exact qM_g (by unfold aTown; (try simp only [Int.toNat_natCast]); repeat' (first | (exfalso; omega) | split | rfl | (congr 1; omega) | simp_all)) | exact qM_n (by unfold aTown; (try simp only [Int.toNat_natCast]); repeat' (first | (exfalso; omega) | split | rfl | (congr 1; omega) | simp_all))
