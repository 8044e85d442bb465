/-! rings: the members, the class; the faces of the class -/
theorem fstN_cs {p : Nat → Bool} : ∀ N, (fstN p N = -2 ∧ ∀ k, k < N → p k = false) ∨ ∃ v, v < N ∧ fstN p N = (v : Int) ∧ p v = true ∧ ∀ k, k < v → p k = false
  | 0 => Or.inl ⟨rfl, fun k hk => absurd hk (Nat.not_lt_zero k)⟩
  | N + 1 => by
    rw [fstN_s]
    rcases fstN_cs (p := p) N with ⟨e, h⟩ | ⟨v, v1, e, v2, v3⟩
    · by_cases q : p N = true
      · rw [if_pos ⟨e, q⟩]; exact Or.inr ⟨N, by omega, rfl, q, h⟩
      · rw [if_neg (fun z => q z.2)]
        refine Or.inl ⟨e, fun k hk => ?_⟩
        by_cases z : k = N
        · rw [z]; simpa using q
        · exact h k (by omega)
    · rw [if_neg (fun z => by have := z.1; omega)]; exact Or.inr ⟨v, by omega, e, v2, v3⟩
theorem fstN_cg {p q : Nat → Bool} {N : Nat} (h : ∀ k, k < N → p k = q k) : fstN p N = fstN q N := by
  unfold fstN
  refine fN_cg (fun k x hk => ?_)
  show (if x = -2 ∧ p k = true then _ else x) = (if x = -2 ∧ q k = true then _ else x)
  rw [h k hk]
def mbN (W : Nat → Nat → Bool) (N hh L : Nat) : Nat → Nat
  | 0 => hh
  | k + 1 => (fstN (fun x => W (mbN W N hh L k) x && wk W N hh (L - (k + 1)) x) N).toNat
theorem rgL_cs {W : Nat → Nat → Bool} {N hh : Nat} : rgL W N hh = -2 ∨ ∃ L : Nat, rgL W N hh = (L : Int) ∧ 2 ≤ L ∧ L ≤ 6 ∧ wk W N hh L hh = true ∧ ∀ n, 2 ≤ n → n < L → wk W N hh n hh = false := by
  unfold rgL
  rcases fstN_cs (p := fun i => wk W N hh (i + 2) hh) 5 with ⟨e, _⟩ | ⟨v, v1, e, v2, v3⟩
  · rw [if_pos e]; exact Or.inl rfl
  · rw [if_neg (by omega), e]
    refine Or.inr ⟨v + 2, by omega, by omega, by omega, v2, fun n n1 n2 => ?_⟩
    have := v3 (n - 2) (by omega)
    rw [show n - 2 + 2 = n by omega] at this
    exact this
theorem mb_ok {W : Nat → Nat → Bool} {N hh L : Nat} (hN : N ≤ 6) (hhh : hh < N) (hs : W hh hh = false) (hL : rgL W N hh = (L : Int)) : ∀ k, k < L → mbN W N hh L k < N ∧ wk W N hh (L - k) (mbN W N hh L k) = true ∧ (∀ n, 1 ≤ n → n < L - k → wk W N hh n (mbN W N hh L k) = false) ∧ (k + 1 < L → fstN (fun x => W (mbN W N hh L k) x && wk W N hh (L - (k + 1)) x) N = (mbN W N hh L (k + 1) : Int)) := by
  have step : ∀ k, k < L → mbN W N hh L k < N → wk W N hh (L - k) (mbN W N hh L k) = true → ∃ v, v < N ∧ fstN (fun x => W (mbN W N hh L k) x && wk W N hh (L - (k + 1)) x) N = (v : Int) ∧ mbN W N hh L (k + 1) = v ∧ W (mbN W N hh L k) v = true ∧ wk W N hh (L - (k + 1)) v = true := fun k hk h1 h2 => by
    rcases fstN_cs (p := fun x => W (mbN W N hh L k) x && wk W N hh (L - (k + 1)) x) N with ⟨_, hf⟩ | ⟨v, v1, e, v2, _⟩
    · exfalso
      rw [show L - k = (L - (k + 1)) + 1 by omega] at h2
      obtain ⟨y, y1, y2, y3⟩ := wk_s.mp h2
      have := hf y y1
      simp only [y2, y3] at this
      cases this
    · simp only [Bool.and_eq_true] at v2
      refine ⟨v, v1, e, ?_, v2.1, v2.2⟩
      show (fstN (fun x => W (mbN W N hh L k) x && wk W N hh (L - (k + 1)) x) N).toNat = v
      rw [e, Int.toNat_natCast]
  intro k
  induction k with
  | zero =>
    intro hk
    rcases rgL_cs (W := W) (N := N) (hh := hh) with e | ⟨L', e, l1, l2, l3, l4⟩
    · omega
    · obtain rfl : L' = L := by omega
      have h1 : mbN W N hh L' 0 < N := hhh
      have h2 : wk W N hh (L' - 0) (mbN W N hh L' 0) = true := l3
      refine ⟨h1, h2, fun n n1 n2 => ?_, fun _ => ?_⟩
      · by_cases q : n = 1
        · rw [q]
          cases z : wk W N hh 1 (mbN W N hh L' 0) with
          | false => rfl
          | true =>
            obtain ⟨y, y1, y2, y3⟩ := wk_s.mp z
            have e2 : (y == hh) = true := y3
            have y4 : W hh y = true := y2
            rw [beq_iff_eq.mp e2, hs] at y4
            cases y4
        · exact l4 n (by omega) (by omega)
      · obtain ⟨v, v1, v2, v3, -⟩ := step 0 hk h1 h2
        rw [v2, v3]
  | succ k ih =>
    intro hk
    obtain ⟨i1, i2, i3, -⟩ := ih (by omega)
    obtain ⟨v, v1, v2, v3, v4, v5⟩ := step k (by omega) i1 i2
    have h1 : mbN W N hh L (k + 1) < N := by rw [v3]; exact v1
    have h2 : wk W N hh (L - (k + 1)) (mbN W N hh L (k + 1)) = true := by rw [v3]; exact v5
    refine ⟨h1, h2, fun n n1 n2 => ?_, fun hk2 => ?_⟩
    · rw [v3]
      cases z : wk W N hh n v with
      | false => rfl
      | true =>
        have := i3 (n + 1) (by omega) (by omega)
        rw [wk_s.mpr ⟨v, v1, v4, z⟩] at this
        cases this
    · obtain ⟨u, u1, u2, u3, -⟩ := step (k + 1) hk h1 h2
      rw [u2, u3]
theorem mb_agree {W : Nat → Nat → Bool} {N hh L : Nat} (hN : N ≤ 6) (hhh : hh < N) (hs : W hh hh = false) (hL : rgL W N hh = (L : Int)) {k x : Nat} (hk : k + 1 < L) (hx : x < N) (hw : W (mbN W N hh L k) x = true) : decide (wkV (wkL W N hh x) = ((L - (k + 1) : Nat) : Int)) = wk W N hh (L - (k + 1)) x := by
  obtain ⟨i1, i2, i3, -⟩ := mb_ok hN hhh hs hL k (by omega)
  have hL6 : L ≤ 6 := by
    rcases rgL_cs (W := W) (N := N) (hh := hh) with e | ⟨L', e, l1, l2, -⟩ <;> omega
  rcases wkV_in (W := W) (hh := hh) hN hx with ⟨e, hf⟩ | ⟨r, e, r1, r2, r3⟩
  · rw [hf, e, decide_eq_false (by omega)]
  · rw [e]
    by_cases q : r = L - (k + 1)
    · rw [q] at r2
      rw [decide_eq_true (by omega), r2]
    · rw [decide_eq_false (by omega)]
      rcases Nat.lt_or_ge (L - (k + 1)) r with z | z
      · exact (r3 _ z).symm
      · have := i3 (r + 1) (by omega) (by omega)
        rw [wk_s.mpr ⟨x, hx, hw, r2⟩] at this
        cases this
theorem s_firstOn {h : gH} {t hh m sl : Nat} {T S : Nat → Nat} (hI : CI h t T S) (hW : rgW h T S) (hV : ∀ k, k < T 3 → h.1 140 k = wkV (wkL (wr T S) (T 3) hh k)) (hm : m < T 3) (hsl : sl ≤ 100) : gSp 2 yX5_firstOnTheWay cX5_firstOnTheWay 5 (some .int) [.ref 138, .ref t, .int (zI (m : Int)), .int (zI (sl : Int))] h (gR (.int (zI (if fstN (fun x => wr T S m x && decide (wkV (wkL (wr T S) (T 3) hh x) = (sl : Int))) (T 3) = -2 then -1 else fstN (fun x => wr T S m x && decide (wkV (wkL (wr T S) (T 3) hh x) = (sl : Int))) (T 3)))) h) := by
  obtain ⟨ht, hP, hT, hS, hA, hB, hN⟩ := id hI
  obtain ⟨s0, -⟩ := shT ht
  have h3 := hT.2.2.2.1
  have hw3 : h.1 t 3 = (T 3 : Int) := hA.1 3 (by omega)
  refine gSp_of (by decide +kernel) (Nat.le_of_ble_eq_true rfl) ?_
  show gJ RX5 cX5_firstOnTheWay 5 (some .int) _ 0 [some (.ref 138), some (.ref t), some (.int (zI (m : Int))), some (.int (zI (sl : Int))), none] [] _ _
  refine gj_iconst (pc' := 1) dX5_firstOnTheWay_0 rfl ?_
  refine gj_istore (pc' := 3) dX5_firstOnTheWay_1 rfl (by decide) ?_
  refine gJ_wk (gJ_fH0 (L := fun x  => [some (.ref 138), some (.ref t), some (.int (zI (m : Int))), some (.int (zI (sl : Int))), some (.int (zI (x : Int)))]) (I := fun x  hp => hp = h ∧ fstN (fun x => wr T S m x && decide (wkV (wkL (wr T S) (T 3) hh x) = (sl : Int))) x = -2) (T 3) (fun x  hp hb_x iv_x ih_x => ?step_1) (0) (Nat.zero_le _)  _ ?iv0_1) ?ll0_1
  case ll0_1 =>
    repeat' (first | exact True.intro | with_reducible exact rfl | refine And.intro ?_ ?_ | refine vI ?_ | refine vL ?_)
    all_goals first | rfl | omega
  case iv0_1 =>
    exact ⟨rfl, rfl⟩
  obtain ⟨rfl, i2⟩ := iv_x
  have es := fstN_s (fun x => wr T S m x && decide (wkV (wkL (wr T S) (T 3) hh x) = (sl : Int))) x
  have hv : x < T 3 → 0 ≤ wkV (wkL (wr T S) (T 3) hh x) ∧ wkV (wkL (wr T S) (T 3) hh x) ≤ 99 := fun q => by
    rcases wkV_in (W := wr T S) (hh := hh) h3.2 q with ⟨e, _⟩ | ⟨r, e, r1, _⟩ <;> omega
  refine gj_iload (pc' := 5) dX5_firstOnTheWay_3 rfl rfl ?_
  refine gj_aload_n (pc' := 6) dX5_firstOnTheWay_5 rfl rfl ?_
  refine gf_X5_24 (pc' := 9) dX5_firstOnTheWay_6 rfl (by first | rfl | assumption) rfl ?_
  rw [hw3]
  refine gj_icmp_ge (pc' := 12) (tgt := 42) dX5_firstOnTheWay_9 (by decide) rfl (by omega) (fun c9 => ?_) (fun c9 => ?_)
  · refine gj_iconst (pc' := 43) dX5_firstOnTheWay_42 rfl ?_
    refine gj_iret rfl dX5_firstOnTheWay_43 ?_
    rw [show T 3 = x by omega] at i2 ⊢
    exact gR_i (by rw [if_pos i2])
  · refine gj_aload_n (pc' := 13) dX5_firstOnTheWay_12 rfl rfl ?_
    refine gj_iload_n (pc' := 14) dX5_firstOnTheWay_13 rfl rfl ?_
    refine gj_iload (pc' := 16) dX5_firstOnTheWay_14 rfl rfl ?_
    refine gr_X5_28 (pc' := 19) dX5_firstOnTheWay_16 rfl (s_hasWronged hT hW hm (by omega)) rfl (by first | rfl | assumption) (by decide) rfl (Nat.le_of_ble_eq_true rfl) ?_
    first | refine gj_ifB_eq (pc' := 22) (tgt := 36) dX5_firstOnTheWay_19 (by decide) rfl (fun c19 => ?_) (fun c19 => ?_) | refine gj_if_eq (pc' := 22) (tgt := 36) dX5_firstOnTheWay_19 (by decide) rfl (by omega) (fun c19 => ?_) (fun c19 => ?_)
    · refine gj_iinc (pc' := 39) dX5_firstOnTheWay_36 rfl rfl (by decide) ?_
      refine gj_goto (pc' := 3) dX5_firstOnTheWay_39 (by decide) ?_
      refine gJ_wk (ih_x  _ (by omega) ?iv_2) ?ll_2
      case ll_2 =>
        repeat' (first | exact True.intro | with_reducible exact rfl | refine And.intro ?_ ?_ | refine vI ?_ | refine vL ?_)
        all_goals omega
      refine ⟨rfl, es.trans ?_⟩
      rw [if_neg]
      · exact i2
      · intro z
        have z2 := z.2
        rw [Bool.and_eq_true, decide_eq_true_eq] at z2
        first
        | exact absurd (z2.1.symm.trans c19) (by decide)
        | omega
    · refine gj_aload_n (pc' := 23) dX5_firstOnTheWay_22 rfl rfl ?_
      refine gf_X5_17 (pc' := 26) dX5_firstOnTheWay_23 rfl (by first | rfl | assumption) rfl ?_
      refine gj_iload (pc' := 28) dX5_firstOnTheWay_26 rfl rfl ?_
      refine gj_iald (pc' := 29) (j := x) (by first | rfl | assumption) (by omega) (by omega) (by decide) dX5_firstOnTheWay_28 rfl ?_
      rw [hV x (by omega)]
      refine gj_iload_n (pc' := 30) dX5_firstOnTheWay_29 rfl rfl ?_
      refine gj_icmp_ne (pc' := 33) (tgt := 36) dX5_firstOnTheWay_30 (by decide) rfl (by have := hv (by omega); omega) (fun c30 => ?_) (fun c30 => ?_)
      · refine gj_iinc (pc' := 39) dX5_firstOnTheWay_36 rfl rfl (by decide) ?_
        refine gj_goto (pc' := 3) dX5_firstOnTheWay_39 (by decide) ?_
        refine gJ_wk (ih_x  _ (by omega) ?iv_3) ?ll_3
        case ll_3 =>
          repeat' (first | exact True.intro | with_reducible exact rfl | refine And.intro ?_ ?_ | refine vI ?_ | refine vL ?_)
          all_goals omega
        refine ⟨rfl, es.trans ?_⟩
        rw [if_neg]
        · exact i2
        · intro z
          have z2 := z.2
          rw [Bool.and_eq_true, decide_eq_true_eq] at z2
          first
          | exact absurd (z2.1.symm.trans c19) (by decide)
          | omega
      · refine gj_iload (pc' := 35) dX5_firstOnTheWay_33 rfl rfl ?_
        refine gj_iret rfl dX5_firstOnTheWay_35 ?_
        have hit : (wr T S m x && decide (wkV (wkL (wr T S) (T 3) hh x) = (sl : Int))) = true := by
          rw [c19, decide_eq_true (by omega)]
          rfl
        rw [fstN_hit (p := fun x => wr T S m x && decide (wkV (wkL (wr T S) (T 3) hh x) = (sl : Int))) i2 hit (by omega)]
        exact gR_i (by rw [if_neg (by omega)])
def rgM (W : Nat → Nat → Bool) (N hh : Nat) (a : Int) : Int := if 0 ≤ a ∧ a < rgL W N hh then (mbN W N hh (rgL W N hh).toNat a.toNat : Int) else -1
theorem s_memberAt {h : gH} {t hh : Nat} {T S : Nat → Nat} {a : Int} (hI : CI h t T S) (hhh : hh < T 3) (ha : inB a) : gSp 5 yX5_memberAt cX5_memberAt 8 (some .int) [.ref 138, .ref t, .ref 52, .int (zI (hh : Int)), .int (zI a)] h (fun v h' => v = some (.int (zI (rgM (wr T S) (T 3) hh a))) ∧ h'.2 = h.2 ∧ (∀ o, o ≠ 139 → o ≠ 140 → h'.1 o = h.1 o)) := by
  obtain ⟨ht, hP, hT, hS, hA, hB, hN⟩ := id hI
  have htt : t = 6 ∨ t = 29 := ht
  have h3 := hT.2.2.2.1
  unfold inB at ha
  have hL := rgL_cs (W := wr T S) (N := T 3) (hh := hh)
  have hL2 : -2 ≤ rgL (wr T S) (T 3) hh ∧ rgL (wr T S) (T 3) hh ≤ 6 := by
    rcases hL with e | ⟨L, e, l1, l2, -⟩ <;> omega
  clear hL
  refine gSp_of (by decide +kernel) (Nat.le_of_ble_eq_true rfl) ?_
  show gJ RX5 cX5_memberAt 8 (some .int) _ 0 [some (.ref 138), some (.ref t), some (.ref 52), some (.int (zI (hh : Int))), some (.int (zI a)), none, none, none] [] _ _
  refine gj_aload_n (pc' := 1) dX5_memberAt_0 rfl rfl ?_
  refine gj_aload_n (pc' := 2) dX5_memberAt_1 rfl rfl ?_
  refine gj_aload_n (pc' := 3) dX5_memberAt_2 rfl rfl ?_
  refine gj_iload_n (pc' := 4) dX5_memberAt_3 rfl rfl ?_
  refine gc_X5_38 (pc' := 7) dX5_memberAt_4 rfl (s_shortest hI hhh) rfl (by first | rfl | assumption) (by decide) rfl (Nat.le_of_ble_eq_true rfl) (fun v9 h9 q9 => ?_)
  obtain ⟨rfl, f0, f1, f2, f3⟩ := q9
  obtain ⟨hd, rfl⟩ : ∃ x, x = h9 := ⟨h9, rfl⟩
  have hI2 : CI hd t T S := hI.to2 f0 (fun o o1 o2 => f1 o (by omega) (by omega)) (fun o o1 o2 => f1 o (by omega) (by omega))
  show gJ _ _ _ _ _ _ _ (.int (zI _) :: _) _ _
  refine gj_istore (pc' := 9) dX5_memberAt_7 rfl (by decide) ?_
  refine gj_iload (pc' := 11) dX5_memberAt_9 rfl rfl ?_
  refine gj_if_lt (pc' := 14) (tgt := 21) dX5_memberAt_11 (by decide) rfl (by omega) (fun c11 => ?_) (fun c11 => ?_)
  · refine gj_iconst (pc' := 22) dX5_memberAt_21 rfl ?_
    refine gj_iret rfl dX5_memberAt_22 ?_
    exact ⟨by unfold rgM; rw [if_neg (by omega)], f0, f1⟩
  · refine gj_iload (pc' := 16) dX5_memberAt_14 rfl rfl ?_
    refine gj_iload (pc' := 18) dX5_memberAt_16 rfl rfl ?_
    refine gj_icmp_lt (pc' := 21) (tgt := 23) dX5_memberAt_18 (by decide) rfl (by omega) (fun c18 => ?_) (fun c18 => ?_)
    · obtain ⟨n, rfl⟩ : ∃ n : Nat, a = (n : Int) := ⟨a.toNat, by omega⟩
      obtain ⟨L, hL⟩ : ∃ L : Nat, rgL (wr T S) (T 3) hh = (L : Int) := ⟨(rgL (wr T S) (T 3) hh).toNat, by omega⟩
      have hr : rgM (wr T S) (T 3) hh (n : Int) = (mbN (wr T S) (T 3) hh L n : Int) := by
        unfold rgM
        rw [if_pos (by omega), hL, Int.toNat_natCast, Int.toNat_natCast]
      have hok := mb_ok h3.2 hhh (wr_self (S := S) hT hh) hL
      have hag := fun k x => mb_agree (k := k) (x := x) h3.2 hhh (wr_self (S := S) hT hh) hL
      have hnL : n < L := by omega
      rw [hL]
      refine gj_iload_n (pc' := 24) dX5_memberAt_23 rfl rfl ?_
      refine gj_istore (pc' := 26) dX5_memberAt_24 rfl (by decide) ?_
      refine gj_iconst (pc' := 27) dX5_memberAt_26 rfl ?_
      refine gj_istore (pc' := 29) dX5_memberAt_27 rfl (by decide) ?_
      refine gJ_wk (gJ_fH1 (L := fun k x => [some (.ref 138), some (.ref t), some (.ref 52), some (.int (zI (hh : Int))), some (.int (zI (n : Int))), some (.int (zI (L : Int))), some (.int (zI x)), some (.int (zI ((k : Int) + 1)))]) (I := fun k x hp => hp = hd ∧ x = (mbN (wr T S) (T 3) hh L k : Int)) (n) (fun k x hp hb_k iv_k ih_k => ?step_1) (0) (Nat.zero_le _) ?x0_1 _ ?iv0_1) ?ll0_1
      case ll0_1 =>
        repeat' (first | exact True.intro | with_reducible exact rfl | refine And.intro ?_ ?_ | refine vI ?_ | refine vL ?_)
        all_goals first | rfl | omega
      case iv0_1 =>
        exact ⟨rfl, rfl⟩
      obtain ⟨rfl, rfl⟩ := iv_k
      obtain ⟨o1, o2, o3, o4⟩ := hok k (by omega)
      refine gj_iload (pc' := 31) dX5_memberAt_29 rfl rfl ?_
      refine gj_iload (pc' := 33) dX5_memberAt_31 rfl rfl ?_
      refine gj_icmp_gt (pc' := 36) (tgt := 63) dX5_memberAt_33 (by decide) rfl (by omega) (fun c33 => ?_) (fun c33 => ?_)
      · refine gj_iload (pc' := 65) dX5_memberAt_63 rfl rfl ?_
        refine gj_iret rfl dX5_memberAt_65 ?_
        exact ⟨by rw [hr, show n = k by omega], f0, f1⟩
      · refine gj_aload_n (pc' := 37) dX5_memberAt_36 rfl rfl ?_
        refine gj_aload_n (pc' := 38) dX5_memberAt_37 rfl rfl ?_
        refine gj_iload (pc' := 40) dX5_memberAt_38 rfl rfl ?_
        refine gj_iload (pc' := 42) dX5_memberAt_40 rfl rfl ?_
        refine gj_iload (pc' := 44) dX5_memberAt_42 rfl rfl ?_
        refine gj_isub (pc' := 45) dX5_memberAt_44 rfl ?_
        rw [show (L : Int) - ((k : Int) + 1) = ((L - (k + 1) : Nat) : Int) by omega]
        refine gr_X5_42 (pc' := 48) dX5_memberAt_45 rfl (s_firstOn (hh := hh) hI2 f2 f3 o1 (by omega)) rfl (by first | rfl | assumption) (by decide) rfl (Nat.le_of_ble_eq_true rfl) ?_
        have e : fstN (fun x => wr T S (mbN (wr T S) (T 3) hh L k) x && decide (wkV (wkL (wr T S) (T 3) hh x) = ((L - (k + 1) : Nat) : Int))) (T 3) = (mbN (wr T S) (T 3) hh L (k + 1) : Int) := by
          rw [← o4 (by omega)]
          refine fstN_cg (fun x hx => ?_)
          show (wr T S (mbN (wr T S) (T 3) hh L k) x && decide _) = (wr T S (mbN (wr T S) (T 3) hh L k) x && _)
          cases q : wr T S (mbN (wr T S) (T 3) hh L k) x with
          | false => rfl
          | true => rw [hag k x (by omega) hx q]
        rw [e, if_neg (by omega)]
        have o1' := (hok (k + 1) (by omega)).1
        refine gj_istore (pc' := 50) dX5_memberAt_48 rfl (by decide) ?_
        refine gj_iload (pc' := 52) dX5_memberAt_50 rfl rfl ?_
        refine gj_if_ge (pc' := 55) (tgt := 57) dX5_memberAt_52 (by decide) rfl (by omega) (fun c52 => ?_) (fun c52 => ?_)
        · refine gj_iinc (pc' := 60) dX5_memberAt_57 rfl rfl (by decide) ?_
          refine gj_goto (pc' := 29) dX5_memberAt_60 (by decide) ?_
          refine gJ_wk (ih_k ?x_2 _ (by omega) ?iv_2) ?ll_2
          case ll_2 =>
            repeat' (first | exact True.intro | with_reducible exact rfl | refine And.intro ?_ ?_ | refine vI ?_ | refine vL ?_)
            all_goals omega
          exact ⟨rfl, rfl⟩
        · exfalso; omega
    · refine gj_iconst (pc' := 22) dX5_memberAt_21 rfl ?_
      refine gj_iret rfl dX5_memberAt_22 ?_
      exact ⟨by unfold rgM; rw [if_neg (by omega)], f0, f1⟩
def aRgAt (T S : Nat → Nat) (a b : Int) : Int × Int := if 0 ≤ a ∧ a < (T 3 : Int) then (if 0 ≤ b ∧ b < rgL (wr T S) (T 3) a.toNat then ((mbN (wr T S) (T 3) a.toNat (rgL (wr T S) (T 3) a.toNat).toNat b.toNat : Int), 0) else (-1, 1)) else (-1, 1)
theorem x_ring {h : gH} {t : Nat} {T S : Nat → Nat} {a : Int} (hQ : XQ h t T S) (ha : inB a) : gSp 12 yX10_ring cX10_ring 2 (some .int) [.ref 0, .int (zI a)] h (qX (aHo T a (fun n => rgL (wr T S) (T 3) n)).1 (aHo T a (fun n => rgL (wr T S) (T 3) n)).2 h) := by
  obtain ⟨ht, hP, hF, hZ, -⟩ := id hQ
  have ha2 := ha; unfold inB at ha2
  refine gSp_of (by decide +kernel) (Nat.le_of_ble_eq_true rfl) ?_
  show gJ RX10 cX10_ring 2 (some .int) _ 0 [some (.ref 0), some (.int (zI a))] [] _ _
  refine gj_aload_n (pc' := 1) dX10_ring_0 rfl rfl ?_
  refine gj_iload_n (pc' := 2) dX10_ring_1 rfl rfl ?_
  refine gr_X10_111 (pc' := 5) dX10_ring_2 rfl (x_isHouse hQ ha) rfl (by first | rfl | assumption) (by decide) rfl (Nat.le_of_ble_eq_true rfl) ?_
  first | refine gj_ifB_eq (pc' := 8) (tgt := 31) dX10_ring_5 (by decide) rfl (fun c5 => ?_) (fun c5 => ?_) | refine gj_if_eq (pc' := 8) (tgt := 31) dX10_ring_5 (by decide) rfl (by omega) (fun c5 => ?_) (fun c5 => ?_)
  · first | have g5 := of_decide_eq_true c5 | have g5 := of_decide_eq_false c5 | skip
    refine gj_aload_n (pc' := 32) dX10_ring_31 rfl rfl ?_
    refine gj_iconst (pc' := 33) dX10_ring_32 rfl ?_
    refine gc_X10_72 (pc' := 36) dX10_ring_33 rfl (x_refuse) rfl (by first | rfl | assumption) (by decide) rfl (Nat.le_of_ble_eq_true rfl) (fun v9 h9 q9 => ?_)
    obtain ⟨rfl, q9a, q9b⟩ := q9
    show gJ _ _ _ _ _ _ _ (.int (zI (-1)) :: _) _ _
    refine gj_iret rfl dX10_ring_36 ?_
    first
    | exact qX_i (by unfold aHo; rw [if_pos (by omega), Int.toNat_natCast]) (XS.tr ⟨d0, fun o _ _ _ o1 o2 _ _ _ => d1 o o1 o2, fun k _ => congrFun (d1 0 (by decide) (by decide)) k⟩ q9a) q9b
    | exact qX_i (by unfold aHo; rw [if_neg (by omega)]) q9a q9b
  · first | have g5 := of_decide_eq_true c5 | have g5 := of_decide_eq_false c5 | skip
    obtain ⟨n, rfl⟩ : ∃ n : Nat, a = (n : Int) := ⟨a.toNat, by omega⟩
    have hI := hQ.ci (by omega)
    refine gj_aload_n (pc' := 9) dX10_ring_8 rfl rfl ?_
    refine gj_aload_n (pc' := 10) dX10_ring_9 rfl rfl ?_
    refine gf_X10_40 (pc' := 13) dX10_ring_10 rfl (by first | rfl | assumption) rfl ?_
    refine gj_aload_n (pc' := 14) dX10_ring_13 rfl rfl ?_
    refine gf_X10_54 (pc' := 17) dX10_ring_14 rfl (by first | rfl | assumption) rfl ?_
    rw [hP]
    refine gj_aload_n (pc' := 18) dX10_ring_17 rfl rfl ?_
    refine gf_X10_19 (pc' := 21) dX10_ring_18 rfl (by first | rfl | assumption) rfl ?_
    refine gj_iload_n (pc' := 22) dX10_ring_21 rfl rfl ?_
    refine gc_X10_244 (pc' := 25) dX10_ring_22 rfl (s_shortest hI (by omega)) rfl (by first | rfl | assumption) (by decide) rfl (Nat.le_of_ble_eq_true rfl) (fun v9 h9 q9 => ?_)
    obtain ⟨rfl, d0, d1, -, -⟩ := q9
    obtain ⟨hd, rfl⟩ : ∃ x, x = h9 := ⟨h9, rfl⟩
    show gJ _ _ _ _ _ _ _ (.int (zI _) :: _) _ _
    refine gc_X10_105 (pc' := 28) dX10_ring_25 rfl (x_grant) rfl (by first | rfl | assumption) (by decide) rfl (Nat.le_of_ble_eq_true rfl) (fun v9 h9 q9 => ?_)
    obtain ⟨rfl, q9a, q9b⟩ := q9
    show gJ _ _ _ _ _ _ _ (.int (zI _) :: _) _ _
    refine gj_goto (pc' := 36) dX10_ring_28 (by decide) ?_
    refine gj_iret rfl dX10_ring_36 ?_
    first
    | exact qX_i (by unfold aHo; rw [if_pos (by omega), Int.toNat_natCast]) (XS.tr ⟨d0, fun o _ _ _ o1 o2 _ _ _ => d1 o o1 o2, fun k _ => congrFun (d1 0 (by decide) (by decide)) k⟩ q9a) q9b
    | exact qX_i (by unfold aHo; rw [if_neg (by omega)]) q9a q9b
theorem x_ringAt {h : gH} {t : Nat} {T S : Nat → Nat} {a b : Int} (hQ : XQ h t T S) (ha : inB a) (hb : inB b) : gSp 12 yX10_ringAt cX10_ringAt 4 (some .int) [.ref 0, .int (zI a), .int (zI b)] h (qX (aRgAt T S a b).1 (aRgAt T S a b).2 h) := by
  obtain ⟨ht, hP, hF, hZ, -⟩ := id hQ
  have ha2 := ha; unfold inB at ha2
  have hb2 := hb; unfold inB at hb2
  refine gSp_of (by decide +kernel) (Nat.le_of_ble_eq_true rfl) ?_
  show gJ RX10 cX10_ringAt 4 (some .int) _ 0 [some (.ref 0), some (.int (zI a)), some (.int (zI b)), none] [] _ _
  refine gj_aload_n (pc' := 1) dX10_ringAt_0 rfl rfl ?_
  refine gj_iload_n (pc' := 2) dX10_ringAt_1 rfl rfl ?_
  refine gr_X10_111 (pc' := 5) dX10_ringAt_2 rfl (x_isHouse hQ ha) rfl (by first | rfl | assumption) (by decide) rfl (Nat.le_of_ble_eq_true rfl) ?_
  first | refine gj_ifB_ne (pc' := 8) (tgt := 14) dX10_ringAt_5 (by decide) rfl (fun c5 => ?_) (fun c5 => ?_) | refine gj_if_ne (pc' := 8) (tgt := 14) dX10_ringAt_5 (by decide) rfl (by omega) (fun c5 => ?_) (fun c5 => ?_)
  · first | have g5 := of_decide_eq_true c5 | have g5 := of_decide_eq_false c5 | skip
    obtain ⟨n, rfl⟩ : ∃ n : Nat, a = (n : Int) := ⟨a.toNat, by omega⟩
    have hI := hQ.ci (by omega)
    refine gj_aload_n (pc' := 15) dX10_ringAt_14 rfl rfl ?_
    refine gf_X10_40 (pc' := 18) dX10_ringAt_15 rfl (by first | rfl | assumption) rfl ?_
    refine gj_aload_n (pc' := 19) dX10_ringAt_18 rfl rfl ?_
    refine gf_X10_54 (pc' := 22) dX10_ringAt_19 rfl (by first | rfl | assumption) rfl ?_
    rw [hP]
    refine gj_aload_n (pc' := 23) dX10_ringAt_22 rfl rfl ?_
    refine gf_X10_19 (pc' := 26) dX10_ringAt_23 rfl (by first | rfl | assumption) rfl ?_
    refine gj_iload_n (pc' := 27) dX10_ringAt_26 rfl rfl ?_
    refine gj_iload_n (pc' := 28) dX10_ringAt_27 rfl rfl ?_
    refine gc_X10_247 (pc' := 31) dX10_ringAt_28 rfl (s_memberAt hI (by omega) hb) rfl (by first | rfl | assumption) (by decide) rfl (Nat.le_of_ble_eq_true rfl) (fun v9 h9 q9 => ?_)
    obtain ⟨rfl, d0, d1⟩ := q9
    obtain ⟨hd, rfl⟩ : ∃ x, x = h9 := ⟨h9, rfl⟩
    obtain ⟨r, hr⟩ : ∃ r, r = rgM (wr T S) (T 3) n b := ⟨_, rfl⟩
    have hr2 : (0 ≤ b ∧ b < rgL (wr T S) (T 3) n ∧ r = (mbN (wr T S) (T 3) n (rgL (wr T S) (T 3) n).toNat b.toNat : Int) ∧ r ≤ 6) ∨ (¬ (0 ≤ b ∧ b < rgL (wr T S) (T 3) n) ∧ r = -1) := by
      rw [hr]
      unfold rgM
      by_cases q : 0 ≤ b ∧ b < rgL (wr T S) (T 3) n
      · rw [if_pos q]
        obtain ⟨-, -, hT, -⟩ := id hI
        obtain ⟨L, hL⟩ : ∃ L : Nat, rgL (wr T S) (T 3) n = (L : Int) := ⟨(rgL (wr T S) (T 3) n).toNat, by omega⟩
        have := (mb_ok hT.2.2.2.1.2 (by omega) (wr_self (S := S) hT n) hL b.toNat (by omega)).1
        refine Or.inl ⟨q.1, q.2, rfl, ?_⟩
        rw [hL, Int.toNat_natCast]
        omega
      · rw [if_neg q]
        exact Or.inr ⟨q, rfl⟩
    rw [← hr]
    show gJ _ _ _ _ _ _ _ (.int (zI r) :: _) _ _
    refine gj_istore_n (pc' := 32) dX10_ringAt_31 rfl (by decide) ?_
    refine gj_iload_n (pc' := 33) dX10_ringAt_32 rfl rfl ?_
    refine gj_if_ge (pc' := 36) (tgt := 44) dX10_ringAt_33 (by decide) rfl (by omega) (fun c33 => ?_) (fun c33 => ?_)
    · first | have g33 := of_decide_eq_true c33 | have g33 := of_decide_eq_false c33 | skip
      refine gj_aload_n (pc' := 45) dX10_ringAt_44 rfl rfl ?_
      refine gj_iload_n (pc' := 46) dX10_ringAt_45 rfl rfl ?_
      refine gc_X10_105 (pc' := 49) dX10_ringAt_46 rfl (x_grant) rfl (by first | rfl | assumption) (by decide) rfl (Nat.le_of_ble_eq_true rfl) (fun v9 h9 q9 => ?_)
      obtain ⟨rfl, q9a, q9b⟩ := q9
      show gJ _ _ _ _ _ _ _ (.int (zI _) :: _) _ _
      refine gj_iret rfl dX10_ringAt_49 ?_
      first
      | (refine qX_i ?_ (XS.tr ⟨d0, fun o _ _ _ o1 o2 _ _ _ => d1 o o1 o2, fun k _ => congrFun (d1 0 (by decide) (by decide)) k⟩ q9a) q9b
         unfold aRgAt
         rw [if_pos (by omega), Int.toNat_natCast]
         rcases hr2 with ⟨e1, e2, e3, _⟩ | ⟨e1, e2⟩
         · first
           | (exfalso; omega)
           | (rw [if_pos ⟨e1, e2⟩, ← e3])
         · first
           | (exfalso; omega)
           | (rw [if_neg e1]))
    · first | have g33 := of_decide_eq_true c33 | have g33 := of_decide_eq_false c33 | skip
      refine gj_aload_n (pc' := 37) dX10_ringAt_36 rfl rfl ?_
      refine gj_iconst (pc' := 38) dX10_ringAt_37 rfl ?_
      refine gc_X10_72 (pc' := 41) dX10_ringAt_38 rfl (x_refuse) rfl (by first | rfl | assumption) (by decide) rfl (Nat.le_of_ble_eq_true rfl) (fun v9 h9 q9 => ?_)
      obtain ⟨rfl, q9a, q9b⟩ := q9
      show gJ _ _ _ _ _ _ _ (.int (zI (-1)) :: _) _ _
      refine gj_goto (pc' := 49) dX10_ringAt_41 (by decide) ?_
      refine gj_iret rfl dX10_ringAt_49 ?_
      first
      | (refine qX_i ?_ (XS.tr ⟨d0, fun o _ _ _ o1 o2 _ _ _ => d1 o o1 o2, fun k _ => congrFun (d1 0 (by decide) (by decide)) k⟩ q9a) q9b
         unfold aRgAt
         rw [if_pos (by omega), Int.toNat_natCast]
         rcases hr2 with ⟨e1, e2, e3, _⟩ | ⟨e1, e2⟩
         · first
           | (exfalso; omega)
           | (rw [if_pos ⟨e1, e2⟩, ← e3])
         · first
           | (exfalso; omega)
           | (rw [if_neg e1]))
  · first | have g5 := of_decide_eq_true c5 | have g5 := of_decide_eq_false c5 | skip
    refine gj_aload_n (pc' := 9) dX10_ringAt_8 rfl rfl ?_
    refine gj_iconst (pc' := 10) dX10_ringAt_9 rfl ?_
    refine gc_X10_72 (pc' := 13) dX10_ringAt_10 rfl (x_refuse) rfl (by first | rfl | assumption) (by decide) rfl (Nat.le_of_ble_eq_true rfl) (fun v9 h9 q9 => ?_)
    obtain ⟨rfl, q9a, q9b⟩ := q9
    show gJ _ _ _ _ _ _ _ (.int (zI (-1)) :: _) _ _
    refine gj_iret rfl dX10_ringAt_13 ?_
    exact qX_i (by unfold aRgAt; rw [if_neg (by omega)]) q9a q9b
