/-! strays: what the class reads; its face -/
def StrI (h : gH) (t : Nat) (T : Nat → Nat) : Prop := StrA h t T ∧ StrS h t T ∧ StrK h t T ∧ StrR h t T (NC T)
theorem StrI.to {h h' : gH} {t : Nat} {T : Nat → Nat} (hT : TV T) (a : StrI h t T) (e : ∀ o, t + 10 ≤ o → o ≤ t + 21 → h'.1 o = h.1 o) : StrI h' t T := by
  obtain ⟨a1, a2, a3, a4, a5⟩ := a
  have h5 : T 5 ≤ 3 := hT.2.2.2.2.2.1
  refine ⟨a1.to (by rw [e _ (by omega) (by omega)]) (by rw [e _ (by omega) (by omega)]) (e _ (by omega) (by omega)) (e _ (by omega) (by omega)) (e _ (by omega) (by omega)) (e _ (by omega) (by omega)) (e _ (by omega) (by omega)), fun s hs k hk => ?_, fun k hk => ?_, ?_, fun c hc ho => ?_⟩
  · rw [e _ (by omega) (by omega)]; exact a2 s hs k hk
  · rw [e _ (by omega) (by omega)]; exact a3 k hk
  · rw [e _ (by omega) (by omega)]; exact a4
  · rw [e _ (by omega) (by omega)]; exact a5 c hc ho
def nR (T : Nat → Nat) : Nat := cnt T (NC T)
theorem StrI.row {h : gH} {t : Nat} {T : Nat → Nat} (hT : TV T) (a : StrI h t T) {i : Nat} (hi : i < nR T) : h.1 (t + 21) i = (rwF T i : Int) ∧ rwF T i < 512 ∧ okF T (rwF T i) = true := by
  obtain ⟨r1, r2, r3⟩ := rwF_ok (T := T) hi
  have := a.2.2.2.2 _ r1 r2
  rw [r3] at this
  have h := NC_le hT
  exact ⟨this, by omega, r2⟩
def gsP (T : Nat → Nat) (s i k : Nat) : Bool := anyN (fun j => gDg (T 5) (rwF T j) s == k) i
def gsN (T : Nat → Nat) (s : Nat) : Nat := bN (gsP T s (nR T)) 8
def suF (T : Nat → Nat) (s : Nat) : Int := if nR T = 0 ∨ pcN (gsN T s) ≠ 1 then -2 else (gDg (T 5) (rwF T 0) s : Int)
def tlN (T : Nat → Nat) (k d q : Nat) : Nat := sN (fun c => (okF T c && (stN T c k d == q)).toNat) (NC T)
def mxF (T : Nat → Nat) (k d : Nat) : Nat := fN (fun q m => max m (tlN T k d q)) 0 4
theorem tl_rows {T : Nat → Nat} (k d q : Nat) : sN (fun i => (stN T (rwF T i) k d == q).toNat) (nR T) = tlN T k d q := by
  unfold nR tlN
  rw [rw_sum (fun c => (stN T c k d == q).toNat) (NC T) (Nat.le_refl _)]
  refine sN_congr (fun c _ => ?_)
  show (if okF T c = true then (stN T c k d == q).toNat else 0) = (okF T c && (stN T c k d == q)).toNat
  cases okF T c <;> rfl
theorem tlN_le {T : Nat → Nat} (hT : TV T) (k d q : Nat) : tlN T k d q ≤ 512 := by
  have := sN_le (f := fun c => (okF T c && (stN T c k d == q)).toNat) (c := 1) (n := NC T) (fun i _ => Bool.toNat_le _)
  have h := NC_le hT
  unfold tlN
  omega
theorem mxF_le {T : Nat → Nat} (hT : TV T) (k d : Nat) : mxF T k d ≤ 512 :=
  fN_inv (fun m => m ≤ 512) (Nat.zero_le _) 4 (fun q m _ hm => by
    have := tlN_le hT k d q
    show max m (tlN T k d q) ≤ 512
    omega)
theorem s_guesses {h : gH} {t s : Nat} {T : Nat → Nat} (ht : isT t) (hT : TV T) (hI : StrI h t T) (hs : s < T 5) : gSp 2 yX7_guesses cX7_guesses 4 (some .int) [.ref (t + 10), .int (zI (s : Int))] h (gR (.int (zI (gsN T s : Nat))) h) := by
  obtain ⟨s0, s1, s2, s3, s4, s5, s6, s7, s8, s9, s10⟩ := shS ht
  have h5 : T 5 ≤ 3 := hT.2.2.2.2.2.1
  have h125 : nR T ≤ 125 := cnt_125 hT
  have hr : h.1 (t + 10) 9 = (nR T : Int) := hI.2.2.2.1
  refine gSp_of (by decide +kernel) (Nat.le_of_ble_eq_true rfl) ?_
  show gJ RX7 cX7_guesses 4 (some .int) _ 0 [some (.ref (t + 10)), some (.int (zI (s : Int))), none, none] [] _ _
  refine gj_iconst (pc' := 1) dX7_guesses_0 rfl ?_
  refine gj_istore_n (pc' := 2) dX7_guesses_1 rfl (by decide) ?_
  refine gj_iconst (pc' := 3) dX7_guesses_2 rfl ?_
  refine gj_istore_n (pc' := 4) dX7_guesses_3 rfl (by decide) ?_
  refine gJ_wk (gJ_for (L := fun i => [some (.ref (t + 10)), some (.int (zI (s : Int))), some (.int (zI (bN (gsP T s i) 8 : Nat))), some (.int (zI (i : Int)))]) (nR T) (fun i hb_i ih_i => ?_) (0) (Nat.zero_le _)) ?_
  · have hb := bN_lt (gsP T s i) 8
    have es : ∀ k, gsP T s (i + 1) k = (gsP T s i k || (gDg (T 5) (rwF T i) s == k)) := fun _ => rfl
    have hg := gDg_lt (T 5) (rwF T i) s
    refine gj_iload_n (pc' := 5) dX7_guesses_4 rfl rfl ?_
    refine gj_aload_n (pc' := 6) dX7_guesses_5 rfl rfl ?_
    refine gf_X7_50 (pc' := 9) dX7_guesses_6 rfl (by first | rfl | assumption) rfl ?_
    rw [hr]
    refine gj_icmp_ge (pc' := 12) (tgt := 34) dX7_guesses_9 (by decide) rfl (by omega) (fun c9 => ?_) (fun c9 => ?_)
    · refine gj_iload_n (pc' := 35) dX7_guesses_34 rfl rfl ?_
      refine gj_iret rfl dX7_guesses_35 ?_
      exact gR_i (by rw [show i = nR T by omega]; rfl)
    · refine gj_iload_n (pc' := 13) dX7_guesses_12 rfl rfl ?_
      refine gj_iconst (pc' := 14) dX7_guesses_13 rfl ?_
      refine gj_aload_n (pc' := 15) dX7_guesses_14 rfl rfl ?_
      refine gj_aload_n (pc' := 16) dX7_guesses_15 rfl rfl ?_
      refine gf_X7_37 (pc' := 19) dX7_guesses_16 rfl (by first | rfl | assumption) rfl ?_
      obtain ⟨r1, r2, -⟩ := hI.row hT (i := i) (by omega)
      refine gj_iload_n (pc' := 20) dX7_guesses_19 rfl rfl ?_
      refine gj_iald (pc' := 21) (j := i) (by first | rfl | assumption) (by omega) (by omega) (by decide) dX7_guesses_20 rfl ?_
      rw [r1]
      refine gj_iload_n (pc' := 22) dX7_guesses_21 rfl rfl ?_
      refine gr_X7_71 (pc' := 25) dX7_guesses_22 rfl (s_guess ht hI.1.1 h5 hs (by omega)) rfl (by first | rfl | assumption) (by decide) rfl (Nat.le_of_ble_eq_true rfl) ?_
      have h128 : 2 ^ gDg (T 5) (rwF T i) s ≤ 2 ^ 7 := Nat.pow_le_pow_right (by omega) (by omega)
      refine gj_ishl (pc' := 26) dX7_guesses_25 rfl ?_
      rw [bt_shl1 (by omega)]
      refine gj_ior (pc' := 27) dX7_guesses_26 rfl ?_
      rw [bt_or (by omega) (by omega), bN_or1 (by omega)]
      refine gj_istore_n (pc' := 28) dX7_guesses_27 rfl (by decide) ?_
      refine gj_iinc (pc' := 31) dX7_guesses_28 rfl rfl (by decide) ?_
      refine gj_goto (pc' := 4) dX7_guesses_31 (by decide) ?_
      refine gJ_wk (ih_i (by omega)) ?_
      repeat' (first | exact True.intro | with_reducible exact rfl | refine And.intro ?_ ?_ | refine vI ?_ | refine vL ?_)
      all_goals first
      | omega
      | (congr 2
         funext k
         rw [es]
         congr 1
         exact Bool.beq_comm)
  · repeat' (first | exact True.intro | with_reducible exact rfl | refine And.intro ?_ ?_ | refine vI ?_ | refine vL ?_)
    all_goals first | rfl | omega
theorem s_onlyGuess {h : gH} {t s : Nat} {T : Nat → Nat} (ht : isT t) (hT : TV T) (hI : StrI h t T) (hs : s < T 5) : gSp 3 yX7_onlyGuess cX7_onlyGuess 2 (some .int) [.ref (t + 10), .int (zI (s : Int))] h (gR (.int (zI (suF T s))) h) := by
  obtain ⟨s0, s1, s2, s3, s4, s5, s6, s7, s8, s9, s10⟩ := shS ht
  have h5 : T 5 ≤ 3 := hT.2.2.2.2.2.1
  have h125 : nR T ≤ 125 := cnt_125 hT
  have hr : h.1 (t + 10) 9 = (nR T : Int) := hI.2.2.2.1
  have hb : gsN T s < 256 := bN_lt (gsP T s (nR T)) 8
  have hpc := pcN_le (gsN T s)
  refine gSp_of (by decide +kernel) (Nat.le_of_ble_eq_true rfl) ?_
  show gJ RX7 cX7_onlyGuess 2 (some .int) _ 0 [some (.ref (t + 10)), some (.int (zI (s : Int)))] [] _ _
  refine gj_aload_n (pc' := 1) dX7_onlyGuess_0 rfl rfl ?_
  refine gf_X7_50 (pc' := 4) dX7_onlyGuess_1 rfl (by first | rfl | assumption) rfl ?_
  rw [hr]
  refine gj_if_eq (pc' := 7) (tgt := 19) dX7_onlyGuess_4 (by decide) rfl (by omega) (fun c4 => ?_) (fun c4 => ?_)
  · refine gj_bipush (pc' := 21) dX7_onlyGuess_19 rfl (by decide) ?_
    refine gj_iret rfl dX7_onlyGuess_21 ?_
    exact gR_i (by unfold suF; rw [if_pos (by omega)])
  · refine gj_aload_n (pc' := 8) dX7_onlyGuess_7 rfl rfl ?_
    refine gj_iload_n (pc' := 9) dX7_onlyGuess_8 rfl rfl ?_
    refine gr_X7_78 (pc' := 12) dX7_onlyGuess_9 rfl (s_guesses ht hT hI hs) rfl (by first | rfl | assumption) (by decide) rfl (Nat.le_of_ble_eq_true rfl) ?_
    refine gr_X7_82 (pc' := 15) dX7_onlyGuess_12 rfl (s_bitCount hb) rfl (by decide) rfl (Nat.le_of_ble_eq_true rfl) ?_
    refine gj_iconst (pc' := 16) dX7_onlyGuess_15 rfl ?_
    refine gj_icmp_eq (pc' := 19) (tgt := 22) dX7_onlyGuess_16 (by decide) rfl (by omega) (fun c16 => ?_) (fun c16 => ?_)
    · refine gj_aload_n (pc' := 23) dX7_onlyGuess_22 rfl rfl ?_
      refine gj_aload_n (pc' := 24) dX7_onlyGuess_23 rfl rfl ?_
      refine gf_X7_37 (pc' := 27) dX7_onlyGuess_24 rfl (by first | rfl | assumption) rfl ?_
      obtain ⟨r1, r2, -⟩ := hI.row hT (i := 0) (by omega)
      refine gj_iconst (pc' := 28) dX7_onlyGuess_27 rfl ?_
      refine gj_iald (pc' := 29) (j := 0) (by first | rfl | assumption) (by omega) (by omega) (by decide) dX7_onlyGuess_28 rfl ?_
      rw [r1]
      refine gj_iload_n (pc' := 30) dX7_onlyGuess_29 rfl rfl ?_
      refine gr_X7_71 (pc' := 33) dX7_onlyGuess_30 rfl (s_guess ht hI.1.1 h5 hs (by omega)) rfl (by first | rfl | assumption) (by decide) rfl (Nat.le_of_ble_eq_true rfl) ?_
      refine gj_iret rfl dX7_onlyGuess_33 ?_
      exact gR_i (by unfold suF; rw [if_neg (by omega)])
    · refine gj_bipush (pc' := 21) dX7_onlyGuess_19 rfl (by decide) ?_
      refine gj_iret rfl dX7_onlyGuess_21 ?_
      exact gR_i (by unfold suF; rw [if_pos (by omega)])
theorem s_mostLeft {h : gH} {t k d : Nat} {T : Nat → Nat} (ht : isT t) (hT : TV T) (hI : StrI h t T) (hk : k < T 3) (hd : d ≤ 100) : gSp 3 yX7_mostLeft cX7_mostLeft 5 (some .int) [.ref (t + 10), .int (zI (k : Int)), .int (zI (d : Int))] h (fun v h' => v = some (.int (zI (mxF T k d : Nat))) ∧ h'.2 = h.2 ∧ (∀ o, o ≠ t + 22 → h'.1 o = h.1 o)) := by
  obtain ⟨s0, s1, s2, s3, s4, s5, s6, s7, s8, s9, s10⟩ := shS ht
  have htt : t = 6 ∨ t = 29 := ht
  have h5 : T 5 ≤ 3 := hT.2.2.2.2.2.1
  have h125 : nR T ≤ 125 := cnt_125 hT
  have htl := tlN_le hT k d
  refine gSp_of (by decide +kernel) (Nat.le_of_ble_eq_true rfl) ?_
  show gJ RX7 cX7_mostLeft 5 (some .int) _ 0 [some (.ref (t + 10)), some (.int (zI (k : Int))), some (.int (zI (d : Int))), none, none] [] _ _
  refine gj_iconst (pc' := 1) dX7_mostLeft_0 rfl ?_
  refine gj_istore_n (pc' := 2) dX7_mostLeft_1 rfl (by decide) ?_
  refine gJ_wk (gJ_fH0 (L := fun q  => [some (.ref (t + 10)), some (.int (zI (k : Int))), some (.int (zI (d : Int))), some (.int (zI (q : Int))), none]) (I := fun q  hp => hp.2 = h.2 ∧ (∀ o, o ≠ t + 22 → hp.1 o = h.1 o) ∧ (∀ i, i < q → hp.1 (t + 22) i = 0)) (4) (fun q  hp hb_q iv_q ih_q => ?step_1) (0) (Nat.zero_le _)  _ ?iv0_1) ?ll0_1
  case ll0_1 =>
    repeat' (first | exact True.intro | with_reducible exact rfl | refine And.intro ?_ ?_ | refine vI ?_ | refine vL ?_)
    all_goals first | rfl | omega
  case iv0_1 =>
    exact ⟨rfl, fun _ _ => rfl, fun i hi => absurd hi (Nat.not_lt_zero i)⟩
  obtain ⟨i1, i2, i3⟩ := iv_q
  refine gj_iload_n (pc' := 3) dX7_mostLeft_2 rfl rfl ?_
  refine gj_aload_n (pc' := 4) dX7_mostLeft_3 rfl rfl ?_
  refine gf_X7_40 (pc' := 7) dX7_mostLeft_4 rfl (by first | rfl | assumption) rfl ?_
  refine gj_alen (pc' := 8) (by first | rfl | assumption) (by decide) dX7_mostLeft_7 rfl ?_
  refine gj_icmp_ge (pc' := 11) (tgt := 24) dX7_mostLeft_8 (by decide) rfl (by omega) (fun c8 => ?_) (fun c8 => ?_)
  · refine gj_iconst (pc' := 25) dX7_mostLeft_24 rfl ?_
    refine gj_istore_n (pc' := 26) dX7_mostLeft_25 rfl (by decide) ?_
    refine gJ_wk (gJ_fH0 (L := fun i  => [some (.ref (t + 10)), some (.int (zI (k : Int))), some (.int (zI (d : Int))), some (.int (zI (i : Int))), none]) (I := fun i  hp => hp.2 = h.2 ∧ (∀ o, o ≠ t + 22 → hp.1 o = h.1 o) ∧ (∀ q, q < 4 → hp.1 (t + 22) q = ((sN (fun i => (stN T (rwF T i) k d == q).toNat) i : Nat) : Int))) (nR T) (fun i  hp hb_i iv_i ih_i => ?step_2) (0) (Nat.zero_le _)  _ ?iv0_2) ?ll0_2
    case ll0_2 =>
      repeat' (first | exact True.intro | with_reducible exact rfl | refine And.intro ?_ ?_ | refine vI ?_ | refine vL ?_)
      all_goals first | rfl | omega
    case iv0_2 =>
      exact ⟨i1, i2, fun q hq => by rw [i3 q (by omega)]; rfl⟩
    obtain ⟨j1, j2, j3⟩ := iv_i
    have hI2 : StrI hp t T := hI.to hT (fun o o1 o2 => j2 o (by omega))
    have hst := stN_le hT (rwF T i) k d
    refine gj_iload_n (pc' := 27) dX7_mostLeft_26 rfl rfl ?_
    refine gj_aload_n (pc' := 28) dX7_mostLeft_27 rfl rfl ?_
    refine gf_X7_50 (pc' := 31) dX7_mostLeft_28 rfl (by first | rfl | assumption) rfl ?_
    rw [hI2.2.2.2.1]
    rw [show cnt T (NC T) = nR T from rfl]
    refine gj_icmp_ge (pc' := 34) (tgt := 61) dX7_mostLeft_31 (by decide) rfl (by omega) (fun c31 => ?_) (fun c31 => ?_)
    · refine gj_iconst (pc' := 62) dX7_mostLeft_61 rfl ?_
      refine gj_istore_n (pc' := 63) dX7_mostLeft_62 rfl (by decide) ?_
      refine gj_iconst (pc' := 64) dX7_mostLeft_63 rfl ?_
      refine gj_istore (pc' := 66) dX7_mostLeft_64 rfl (by decide) ?_
      refine gJ_wk (gJ_fH1 (L := fun q x => [some (.ref (t + 10)), some (.int (zI (k : Int))), some (.int (zI (d : Int))), some (.int (zI x)), some (.int (zI (q : Int)))]) (I := fun q x hp => x = ((fN (fun q m => max m (tlN T k d q)) 0 q : Nat) : Int) ∧ hp.2 = h.2 ∧ (∀ o, o ≠ t + 22 → hp.1 o = h.1 o) ∧ (∀ q, q < 4 → hp.1 (t + 22) q = (tlN T k d q : Int))) (4) (fun q x hp hb_q iv_q ih_q => ?step_3) (0) (Nat.zero_le _) ?x0_3 _ ?iv0_3) ?ll0_3
      case ll0_3 =>
        repeat' (first | exact True.intro | with_reducible exact rfl | refine And.intro ?_ ?_ | refine vI ?_ | refine vL ?_)
        all_goals first | rfl | omega
      case iv0_3 =>
        exact ⟨rfl, j1, j2, fun q hq => by
          rw [j3 q hq, ← tl_rows, show i = nR T by omega]⟩
      obtain ⟨rfl, k1, k2, k3⟩ := iv_q
      have hm : fN (fun q m => max m (tlN T k d q)) 0 q ≤ 512 := fN_inv (fun m => m ≤ 512) (Nat.zero_le _) q (fun q m _ hm => by
        have := htl q
        show max m (tlN T k d q) ≤ 512
        omega)
      have es : fN (fun q m => max m (tlN T k d q)) 0 (q + 1) = max (fN (fun q m => max m (tlN T k d q)) 0 q) (tlN T k d q) := rfl
      have htq := htl q
      refine gj_iload (pc' := 68) dX7_mostLeft_66 rfl rfl ?_
      refine gj_aload_n (pc' := 69) dX7_mostLeft_68 rfl rfl ?_
      refine gf_X7_40 (pc' := 72) dX7_mostLeft_69 rfl (by first | rfl | assumption) rfl ?_
      refine gj_alen (pc' := 73) (by first | rfl | assumption) (by decide) dX7_mostLeft_72 rfl ?_
      refine gj_icmp_ge (pc' := 76) (tgt := 94) dX7_mostLeft_73 (by decide) rfl (by omega) (fun c73 => ?_) (fun c73 => ?_)
      · refine gj_iload_n (pc' := 95) dX7_mostLeft_94 rfl rfl ?_
        refine gj_iret rfl dX7_mostLeft_95 ?_
        exact ⟨by rw [show q = 4 by omega]; rfl, k1, k2⟩
      · refine gj_iload_n (pc' := 77) dX7_mostLeft_76 rfl rfl ?_
        refine gj_aload_n (pc' := 78) dX7_mostLeft_77 rfl rfl ?_
        refine gf_X7_40 (pc' := 81) dX7_mostLeft_78 rfl (by first | rfl | assumption) rfl ?_
        refine gj_iload (pc' := 83) dX7_mostLeft_81 rfl rfl ?_
        refine gj_iald (pc' := 84) (j := q) (by first | rfl | assumption) (by omega) (by omega) (by decide) dX7_mostLeft_83 rfl ?_
        rw [k3 q (by omega)]
        refine gj_mmax (pc' := 87) dX7_mostLeft_84 rfl wm_X7_97 (by decide) (by omega) (by omega) (Nat.le_of_ble_eq_true rfl) ?_
        refine gj_istore_n (pc' := 88) dX7_mostLeft_87 rfl (by decide) ?_
        refine gj_iinc (pc' := 91) dX7_mostLeft_88 rfl rfl (by decide) ?_
        refine gj_goto (pc' := 66) dX7_mostLeft_91 (by decide) ?_
        refine gJ_wk (ih_q ?x_4 _ (by omega) ?iv_4) ?ll_4
        case ll_4 =>
          repeat' (first | exact True.intro | with_reducible exact rfl | refine And.intro ?_ ?_ | refine vI ?_ | refine vL ?_)
          all_goals omega
        refine ⟨?_, k1, k2, k3⟩
        rw [es]
        omega
    · refine gj_aload_n (pc' := 35) dX7_mostLeft_34 rfl rfl ?_
      refine gf_X7_40 (pc' := 38) dX7_mostLeft_35 rfl (by first | rfl | assumption) rfl ?_
      refine gj_aload_n (pc' := 39) dX7_mostLeft_38 rfl rfl ?_
      refine gj_aload_n (pc' := 40) dX7_mostLeft_39 rfl rfl ?_
      refine gf_X7_37 (pc' := 43) dX7_mostLeft_40 rfl (by first | rfl | assumption) rfl ?_
      obtain ⟨r1, r2, -⟩ := hI2.row hT (i := i) (by omega)
      refine gj_iload_n (pc' := 44) dX7_mostLeft_43 rfl rfl ?_
      refine gj_iald (pc' := 45) (j := i) (by first | rfl | assumption) (by omega) (by omega) (by decide) dX7_mostLeft_44 rfl ?_
      rw [r1]
      refine gj_iload_n (pc' := 46) dX7_mostLeft_45 rfl rfl ?_
      refine gj_iload_n (pc' := 47) dX7_mostLeft_46 rfl rfl ?_
      refine gr_X7_74 (pc' := 50) dX7_mostLeft_47 rfl (s_stray ht hT hI2.1 hI2.2.1 (by omega) hk (by omega)) rfl (by first | rfl | assumption) (by decide) rfl (Nat.le_of_ble_eq_true rfl) ?_
      refine gj_dup2 (pc' := 51) dX7_mostLeft_50 rfl rfl rfl ?_
      refine gj_iald (pc' := 52) (j := stN T (rwF T i) k d) (by first | rfl | assumption) (by omega) (by omega) (by decide) dX7_mostLeft_51 rfl ?_
      rw [j3 _ (by omega)]
      refine gj_iconst (pc' := 53) dX7_mostLeft_52 rfl ?_
      refine gj_iadd (pc' := 54) dX7_mostLeft_53 rfl ?_
      refine gj_iast (pc' := 55) (j := stN T (rwF T i) k d) (by first | rfl | assumption) (by omega) (by omega) (by decide) dX7_mostLeft_54 rfl ?_
      refine gj_iinc (pc' := 58) dX7_mostLeft_55 rfl rfl (by decide) ?_
      refine gj_goto (pc' := 26) dX7_mostLeft_58 (by decide) ?_
      refine gJ_wk (ih_i  _ (by omega) ?iv_5) ?ll_5
      case ll_5 =>
        repeat' (first | exact True.intro | with_reducible exact rfl | refine And.intro ?_ ?_ | refine vI ?_ | refine vL ?_)
        all_goals omega
      refine ⟨j1, fun o ho => (gui_n ho).trans (j2 o ho), fun q hq => ?_⟩
      rw [gui_s]
      show _ = ((sN (fun i => (stN T (rwF T i) k d == q).toNat) i + (stN T (rwF T i) k d == q).toNat : Nat) : Int)
      by_cases z : q = stN T (rwF T i) k d
      · rw [z, up1_s, beq_self_eq_true]
        have e1 : true.toNat = 1 := rfl
        omega
      · have e : (stN T (rwF T i) k d == q) = false := by rw [beq_eq_false_iff_ne]; exact fun y => z y.symm
        rw [up1_n z, j3 q hq, e]
        have e0 : false.toNat = 0 := rfl
        omega
  · refine gj_aload_n (pc' := 12) dX7_mostLeft_11 rfl rfl ?_
    refine gf_X7_40 (pc' := 15) dX7_mostLeft_12 rfl (by first | rfl | assumption) rfl ?_
    refine gj_iload_n (pc' := 16) dX7_mostLeft_15 rfl rfl ?_
    refine gj_iconst (pc' := 17) dX7_mostLeft_16 rfl ?_
    refine gj_iast (pc' := 18) (j := q) (by first | rfl | assumption) (by omega) (by omega) (by decide) dX7_mostLeft_17 rfl ?_
    refine gj_iinc (pc' := 21) dX7_mostLeft_18 rfl rfl (by decide) ?_
    refine gj_goto (pc' := 2) dX7_mostLeft_21 (by decide) ?_
    refine gJ_wk (ih_q  _ (by omega) ?iv_6) ?ll_6
    case ll_6 =>
      repeat' (first | exact True.intro | with_reducible exact rfl | refine And.intro ?_ ?_ | refine vI ?_ | refine vL ?_)
      all_goals omega
    refine ⟨i1, fun o ho => (gui_n ho).trans (i2 o ho), fun i hi => ?_⟩
    rw [gui_s]
    by_cases z : i = q
    · rw [z, up1_s]
    · rw [up1_n z]; exact i3 i (by omega)
theorem s_comesOn {h : gH} {t k d : Nat} {T : Nat → Nat} (ht : isT t) (hT : TV T) (hI : StrI h t T) (hk : k < T 3) (hd : d ≤ 100) : gSp 1 yX7_comesOn cX7_comesOn 4 (some .boolean) [.ref (t + 10), .int (zI (k : Int)), .int (zI (d : Int))] h (gR (.int (zI (bI (anyN (fun s => stT T s k == d) (T 5))))) h) := by
  obtain ⟨s0, s1, s2, s3, s4, s5, s6, s7, s8, s9, s10⟩ := shS ht
  have h5 : T 5 ≤ 3 := hT.2.2.2.2.2.1
  have h3 := hT.2.2.2.1
  refine gSp_of (by decide +kernel) (Nat.le_of_ble_eq_true rfl) ?_
  show gJ RX7 cX7_comesOn 4 (some .boolean) _ 0 [some (.ref (t + 10)), some (.int (zI (k : Int))), some (.int (zI (d : Int))), none] [] _ _
  refine gj_iconst (pc' := 1) dX7_comesOn_0 rfl ?_
  refine gj_istore_n (pc' := 2) dX7_comesOn_1 rfl (by decide) ?_
  refine gJ_wk (gJ_fH0 (L := fun s  => [some (.ref (t + 10)), some (.int (zI (k : Int))), some (.int (zI (d : Int))), some (.int (zI (s : Int)))]) (I := fun s  hp => hp = h ∧ anyN (fun s => stT T s k == d) s = false) (T 5) (fun s  hp hb_s iv_s ih_s => ?step_1) (0) (Nat.zero_le _)  _ ?iv0_1) ?ll0_1
  case ll0_1 =>
    repeat' (first | exact True.intro | with_reducible exact rfl | refine And.intro ?_ ?_ | refine vI ?_ | refine vL ?_)
    all_goals first | rfl | omega
  case iv0_1 =>
    exact ⟨rfl, rfl⟩
  obtain ⟨rfl, i2⟩ := iv_s
  have es : anyN (fun s => stT T s k == d) (s + 1) = (anyN (fun s => stT T s k == d) s || (stT T s k == d)) := rfl
  refine gj_iload_n (pc' := 3) dX7_comesOn_2 rfl rfl ?_
  refine gj_aload_n (pc' := 4) dX7_comesOn_3 rfl rfl ?_
  refine gf_X7_43 (pc' := 7) dX7_comesOn_4 rfl (by first | rfl | assumption) rfl ?_
  rw [hI.1.1]
  refine gj_icmp_ge (pc' := 10) (tgt := 30) dX7_comesOn_7 (by decide) rfl (by omega) (fun c7 => ?_) (fun c7 => ?_)
  · refine gj_iconst (pc' := 31) dX7_comesOn_30 rfl ?_
    refine gj_zret rfl (by first | rfl | exact gnZ _ | assumption) dX7_comesOn_31 ?_
    exact gR_f (by rw [show T 5 = s by omega]; exact i2)
  · refine gj_aload_n (pc' := 11) dX7_comesOn_10 rfl rfl ?_
    refine gf_X7_22 (pc' := 14) dX7_comesOn_11 rfl (by first | rfl | assumption) rfl ?_
    have s4s := s4 s (by omega)
    have hst := stT_le hT (s := s) (h := k) (by omega) hk
    refine gj_iload_n (pc' := 15) dX7_comesOn_14 rfl rfl ?_
    refine gj_aald2 (pc' := 16) (j := s) (by first | rfl | assumption) (by omega) (by omega) (by decide) dX7_comesOn_15 rfl ?_
    rw [Nat.one_mul]
    refine gj_iload_n (pc' := 17) dX7_comesOn_16 rfl rfl ?_
    refine gj_iald (pc' := 18) (by first | rfl | assumption) rfl (by omega) (by decide) dX7_comesOn_17 rfl ?_
    rw [hI.2.1 s (by omega) k hk]
    refine gj_iload_n (pc' := 19) dX7_comesOn_18 rfl rfl ?_
    refine gj_icmp_ne (pc' := 22) (tgt := 24) dX7_comesOn_19 (by decide) rfl (by omega) (fun c19 => ?_) (fun c19 => ?_)
    · refine gj_iinc (pc' := 27) dX7_comesOn_24 rfl rfl (by decide) ?_
      refine gj_goto (pc' := 2) dX7_comesOn_27 (by decide) ?_
      refine gJ_wk (ih_s  _ (by omega) ?iv_2) ?ll_2
      case ll_2 =>
        repeat' (first | exact True.intro | with_reducible exact rfl | refine And.intro ?_ ?_ | refine vI ?_ | refine vL ?_)
        all_goals omega
      refine ⟨rfl, ?_⟩
      rw [es, i2, Bool.false_or, beq_eq_false_iff_ne]
      omega
    · refine gj_iconst (pc' := 23) dX7_comesOn_22 rfl ?_
      refine gj_zret rfl (by first | rfl | exact gnZ _ | assumption) dX7_comesOn_23 ?_
      exact gR_t (anyN_t.mpr ⟨s, by omega, beq_iff_eq.mpr (by omega)⟩)
