/-! Present: white, days till sitting -/
theorem sN_add (f g : Nat → Nat) : ∀ n, sN (fun i => f i + g i) n = sN f n + sN g n
  | 0 => rfl
  | n + 1 => by
    unfold sN
    rw [sN_add f g n]
    omega
theorem sN_zero : ∀ n, sN (fun _ => 0) n = 0
  | 0 => rfl
  | n + 1 => by unfold sN; rw [sN_zero n]
theorem sN_swap (f : Nat → Nat → Nat) (m : Nat) : ∀ n, sN (fun i => sN (fun j => f i j) m) n = sN (fun j => sN (fun i => f i j) n) m
  | 0 => by
    show 0 = sN (fun _ => 0) m
    rw [sN_zero]
  | n + 1 => by
    show sN (fun i => sN (fun j => f i j) m) n + sN (fun j => f n j) m = sN (fun j => sN (fun i => f i j) n + f n j) m
    rw [sN_swap f m n, sN_add]
theorem sN_ext (f : Nat → Nat) (n : Nat) : ∀ m, n ≤ m → (∀ k, n ≤ k → f k = 0) → sN f m = sN f n
  | 0, h, _ => by rw [show n = 0 by omega]
  | m + 1, h, hz => by
    rcases Nat.lt_or_ge m n with q | q
    · rw [show n = m + 1 by omega]
    · show sN f m + f m = _
      rw [hz m q, sN_ext f n m q hz]
      rfl
theorem pcN_bN (p : Nat → Bool) {n : Nat} (hn : n ≤ 8) : pcN (bN p n) = sN (fun k => (p k).toNat) n := by
  unfold pcN
  rw [sN_ext _ n 8 hn (fun k hk => by rw [bN_bit]; simp [show ¬ k < n by omega])]
  refine sN_congr (fun i hi => ?_)
  rw [bN_bit]
  simp [hi]
def wCnt (d sf : Nat) (n : Nat) : Nat := sN (fun k => if sf ≤ d + (k + 1) then 1 else 0) n
theorem wCnt_eq (d sf : Nat) : ∀ n, wCnt d sf n = min n (d + n + 1 - sf)
  | 0 => by simp [wCnt, sN]
  | n + 1 => by
    have ih := wCnt_eq d sf n
    show wCnt d sf n + (if sf ≤ d + (n + 1) then 1 else 0) = _
    rw [ih]
    split <;> omega
def sWi (T S : Nat → Nat) (h n : Nat) : Nat := S (7 + h) + sN (fun k => sMany T S h (S 20 + (k + 1))) n
def cWb (T S : Nat → Nat) (h n b : Nat) : Nat := if tSill T b = h ∧ sGone S b = false then min n (S 20 + n + 1 - tSf T b) else 0
theorem sSit_eq (T S : Nat → Nat) (h day b : Nat) : sSit T S h day b = (decide (tSill T b = h ∧ sGone S b = false) && decide (tSf T b ≤ day)) := by
  unfold sSit sWh
  have hl : T (22 + 5 * b) ≤ tSf T b := by unfold tSf; omega
  cases hg : sGone S b with
  | true => simp
  | false =>
    simp only [Bool.false_eq_true, if_false]
    by_cases h1 : tSill T b = h
    · simp only [h1, beq_self_eq_true, Bool.true_and, decide_true, and_true]
      by_cases h2 : tSf T b ≤ day
      · rw [if_neg (by omega), if_neg (by omega)]; simp [h2]
      · simp only [h2, decide_false]
        split
        · rfl
        · rw [if_pos (by omega)]; rfl
    · have : (tSill T b == h) = false := by simpa using h1
      simp [this, h1]
theorem sWi_eq {T S : Nat → Nat} (h4 : T 4 ≤ 7) (h n : Nat) : sWi T S h n = S (7 + h) + sN (cWb T S h n) (T 4) := by
  unfold sWi
  congr 1
  have e1 : ∀ k, sMany T S h (S 20 + (k + 1)) = sN (fun b => (sSit T S h (S 20 + (k + 1)) b).toNat) (T 4) := fun k => pcN_bN _ (by omega)
  simp only [e1]
  rw [sN_swap]
  refine sN_congr (fun b _ => ?_)
  show sN (fun k => (sSit T S h (S 20 + (k + 1)) b).toNat) n = cWb T S h n b
  unfold cWb
  by_cases q : tSill T b = h ∧ sGone S b = false
  · rw [if_pos q, ← wCnt_eq]
    refine sN_congr (fun k _ => ?_)
    rw [sSit_eq, decide_eq_true q, Bool.true_and]
    by_cases z : tSf T b ≤ S 20 + (k + 1)
    · rw [if_pos z, decide_eq_true z]; rfl
    · rw [if_neg z, decide_eq_false z]; rfl
  · rw [if_neg q]
    have : ∀ k, (sSit T S h (S 20 + (k + 1)) b).toNat = 0 := fun k => by rw [sSit_eq, decide_eq_false q]; rfl
    simp only [this, sN_zero]
theorem cWb_le (T S : Nat → Nat) (h n b : Nat) : cWb T S h n b ≤ n := by
  unfold cWb
  split <;> omega
theorem sWi_le {T S : Nat → Nat} (hT : TV T) (hS : SV T S) {h n : Nat} (hh : h < T 3) (hn : n ≤ 60) : sWi T S h n ≤ 7500 := by
  have h4 : T 4 ≤ 7 := hT.2.2.2.2.1
  rw [sWi_eq h4]
  have h1 := hS.2.2.2.1 h hh
  have h2 := hS.2.2.1
  have h3 := sN_le (f := cWb T S h n) (c := 60) (n := T 4) (fun i _ => Nat.le_trans (cWb_le T S h n i) hn)
  omega
theorem s_white {h : gH} {t hs n : Nat} {T S : Nat → Nat} (hI : CI h t T S) (hh : hs < T 3) (hn : n ≤ 60) : gSp 3 yX3_whiteBehind cX3_whiteBehind 7 (some .int) [.ref 52, .ref t, .int (zI (hs : Int)), .int (zI (n : Int))] h (gR (.int (zI (sWi T S hs n : Nat))) h) := by
  obtain ⟨ht, hP, hT, hS, hA, hB, hN⟩ := id hI
  obtain ⟨s0, -, -, -, -, -, -, -, s8, -⟩ := shT ht
  have h4 : T 4 ≤ 7 := hT.2.2.2.2.1
  have h3 := hT.2.2.2.1
  have hw : h.1 t 4 = (T 4 : Int) := hA.1 4 (by omega)
  have hd := hS.2.2.1
  rw [sWi_eq h4]
  refine gSp_of (by decide +kernel) (Nat.le_of_ble_eq_true rfl) ?_
  show gJ RX3 cX3_whiteBehind 7 (some .int) _ 0 [some (.ref 52), some (.ref t), some (.int (zI (hs : Int))), some (.int (zI (n : Int))), none, none, none] [] _ _
  refine gj_aload_n (pc' := 1) dX3_whiteBehind_0 rfl rfl ?_
  refine gf_X3_17 (pc' := 4) dX3_whiteBehind_1 rfl (by first | rfl | assumption) rfl ?_
  refine gj_iload_n (pc' := 5) dX3_whiteBehind_4 rfl rfl ?_
  refine gj_iald (pc' := 6) (by first | rfl | assumption) rfl (by omega) (by decide) dX3_whiteBehind_5 rfl ?_
  rw [(hN.2.2.2.1 hs hh).2]
  refine gj_istore (pc' := 8) dX3_whiteBehind_6 rfl (by decide) ?_
  refine gj_iconst (pc' := 9) dX3_whiteBehind_8 rfl ?_
  refine gj_istore (pc' := 11) dX3_whiteBehind_9 rfl (by decide) ?_
  refine gJ_wk (gJ_for (L := fun b => [some (.ref 52), some (.ref t), some (.int (zI (hs : Int))), some (.int (zI (n : Int))), some (.int (zI (((S (7 + hs) + sN (cWb T S hs n) b : Nat)) : Int))), some (.int (zI (b : Int))), none]) (T 4) (fun b hb_b ih_b => ?_) (0) (Nat.zero_le _)) ?_
  · have es : sN (cWb T S hs n) (b + 1) = sN (cWb T S hs n) b + cWb T S hs n b := rfl
    have eb : b < T 4 → tSf T b ≤ 178 := fun q => tSf_le hT q
    refine gj_iload (pc' := 13) dX3_whiteBehind_11 rfl rfl ?_
    refine gj_aload_n (pc' := 14) dX3_whiteBehind_13 rfl rfl ?_
    refine gf_X3_40 (pc' := 17) dX3_whiteBehind_14 rfl (by first | rfl | assumption) rfl ?_
    rw [hw]
    refine gj_icmp_ge (pc' := 20) (tgt := 78) dX3_whiteBehind_17 (by decide) rfl (by omega) (fun c17 => ?_) (fun c17 => ?_)
    · refine gj_iload (pc' := 80) dX3_whiteBehind_78 rfl rfl ?_
      refine gj_iret rfl dX3_whiteBehind_80 ?_
      exact gR_i (by rw [show b = T 4 by omega])
    · refine gj_aload_n (pc' := 21) dX3_whiteBehind_20 rfl rfl ?_
      refine gf_X3_61 (pc' := 24) dX3_whiteBehind_21 rfl (by first | rfl | assumption) rfl ?_
      refine gj_iload (pc' := 26) dX3_whiteBehind_24 rfl rfl ?_
      refine gj_iald (pc' := 27) (by first | rfl | assumption) rfl (by omega) (by decide) dX3_whiteBehind_26 rfl ?_
      rw [(hB b (by omega)).1]
      refine gj_iload_n (pc' := 28) dX3_whiteBehind_27 rfl rfl ?_
      refine gj_icmp_ne (pc' := 31) (tgt := 72) dX3_whiteBehind_28 (by decide) rfl (by have := tSill_lt hT (b := b) (by omega); omega) (fun c28 => ?_) (fun c28 => ?_)
      · refine gj_iinc (pc' := 75) dX3_whiteBehind_72 rfl rfl (by decide) ?_
        refine gj_goto (pc' := 11) dX3_whiteBehind_75 (by decide) ?_
        refine gJ_wk (ih_b (by omega)) ?_
        repeat' (first | exact True.intro | with_reducible exact rfl | refine And.intro ?_ ?_ | refine vI ?_ | refine vL ?_)
        all_goals first | omega | (rw [es]; unfold cWb; first | (rw [if_pos ⟨by omega, c37⟩]; omega) | (rw [if_neg (by rw [c37]; simp)]; omega) | (rw [if_neg (by omega)]; omega))
      · refine gj_aload_n (pc' := 32) dX3_whiteBehind_31 rfl rfl ?_
        refine gj_iload (pc' := 34) dX3_whiteBehind_32 rfl rfl ?_
        refine gr_X3_46 (pc' := 37) dX3_whiteBehind_34 rfl (s_isGone hI (by omega)) rfl (by first | rfl | assumption) (by decide) rfl (Nat.le_of_ble_eq_true rfl) ?_
        first | refine gj_ifB_ne (pc' := 40) (tgt := 72) dX3_whiteBehind_37 (by decide) rfl (fun c37 => ?_) (fun c37 => ?_) | refine gj_if_ne (pc' := 40) (tgt := 72) dX3_whiteBehind_37 (by decide) rfl (by omega) (fun c37 => ?_) (fun c37 => ?_)
        · refine gj_iinc (pc' := 75) dX3_whiteBehind_72 rfl rfl (by decide) ?_
          refine gj_goto (pc' := 11) dX3_whiteBehind_75 (by decide) ?_
          refine gJ_wk (ih_b (by omega)) ?_
          repeat' (first | exact True.intro | with_reducible exact rfl | refine And.intro ?_ ?_ | refine vI ?_ | refine vL ?_)
          all_goals first | omega | (rw [es]; unfold cWb; first | (rw [if_pos ⟨by omega, c37⟩]; omega) | (rw [if_neg (by rw [c37]; simp)]; omega) | (rw [if_neg (by omega)]; omega))
        · refine gj_aload_n (pc' := 41) dX3_whiteBehind_40 rfl rfl ?_
          refine gf_X3_23 (pc' := 44) dX3_whiteBehind_41 rfl (by first | rfl | assumption) rfl ?_
          rw [hN.1]
          refine gj_iload_n (pc' := 45) dX3_whiteBehind_44 rfl rfl ?_
          refine gj_iadd (pc' := 46) dX3_whiteBehind_45 rfl ?_
          refine gj_aload_n (pc' := 47) dX3_whiteBehind_46 rfl rfl ?_
          refine gj_iload (pc' := 49) dX3_whiteBehind_47 rfl rfl ?_
          refine gr_X3_53 (pc' := 52) dX3_whiteBehind_49 rfl (s_sitsFrom ht hA hB hT (by omega)) rfl (by first | rfl | assumption) (by decide) rfl (Nat.le_of_ble_eq_true rfl) ?_
          refine gj_isub (pc' := 53) dX3_whiteBehind_52 rfl ?_
          refine gj_iconst (pc' := 54) dX3_whiteBehind_53 rfl ?_
          refine gj_iadd (pc' := 55) dX3_whiteBehind_54 rfl ?_
          refine gj_istore (pc' := 57) dX3_whiteBehind_55 rfl (by decide) ?_
          refine gj_iload (pc' := 59) dX3_whiteBehind_57 rfl rfl ?_
          refine gj_iconst (pc' := 60) dX3_whiteBehind_59 rfl ?_
          refine gj_iload_n (pc' := 61) dX3_whiteBehind_60 rfl rfl ?_
          refine gj_iload (pc' := 63) dX3_whiteBehind_61 rfl rfl ?_
          refine gj_mmin (pc' := 66) dX3_whiteBehind_63 rfl wm_X3_86 (by decide) (by omega) (by omega) (Nat.le_of_ble_eq_true rfl) ?_
          refine gj_mmax (pc' := 69) dX3_whiteBehind_66 rfl wm_X3_92 (by decide) (by omega) (by omega) (Nat.le_of_ble_eq_true rfl) ?_
          refine gj_iadd (pc' := 70) dX3_whiteBehind_69 rfl ?_
          refine gj_istore (pc' := 72) dX3_whiteBehind_70 rfl (by decide) ?_
          refine gj_iinc (pc' := 75) dX3_whiteBehind_72 rfl rfl (by decide) ?_
          refine gj_goto (pc' := 11) dX3_whiteBehind_75 (by decide) ?_
          refine gJ_wk (ih_b (by omega)) ?_
          repeat' (first | exact True.intro | with_reducible exact rfl | refine And.intro ?_ ?_ | refine vI ?_ | refine vL ?_)
          all_goals first | omega | (rw [es]; unfold cWb; first | (rw [if_pos ⟨by omega, c37⟩]; omega) | (rw [if_neg (by rw [c37]; simp)]; omega) | (rw [if_neg (by omega)]; omega))
  · repeat' (first | exact True.intro | with_reducible exact rfl | refine And.intro ?_ ?_ | refine vI ?_ | refine vL ?_)
    all_goals first | rfl | omega
theorem s_whitest {h : gH} {t n : Nat} {T S : Nat → Nat} (hI : CI h t T S) (hn : n ≤ 60) : gSp 4 yX3_whitestHouse cX3_whitestHouse 5 (some .int) [.ref 52, .ref t, .int (zI (n : Int))] h (gR (.int (zI (aMax (fun k => sWi T S k n) (T 3) : Nat))) h) := by
  obtain ⟨ht, hP, hT, hS, hA, hB, hN⟩ := id hI
  obtain ⟨s0, -⟩ := shT ht
  have h3 := hT.2.2.2.1
  have hw : h.1 t 3 = (T 3 : Int) := hA.1 3 (by omega)
  refine gSp_of (by decide +kernel) (Nat.le_of_ble_eq_true rfl) ?_
  show gJ RX3 cX3_whitestHouse 5 (some .int) _ 0 [some (.ref 52), some (.ref t), some (.int (zI (n : Int))), none, none] [] _ _
  refine gj_iconst (pc' := 1) dX3_whitestHouse_0 rfl ?_
  refine gj_istore_n (pc' := 2) dX3_whitestHouse_1 rfl (by decide) ?_
  refine gj_iconst (pc' := 3) dX3_whitestHouse_2 rfl ?_
  refine gj_istore (pc' := 5) dX3_whitestHouse_3 rfl (by decide) ?_
  refine gJ_wk (gJ_fI1 (L := fun b x => [some (.ref 52), some (.ref t), some (.int (zI (n : Int))), some (.int (zI x)), some (.int (zI (b : Int)))]) (I := fun b x => x = ((aMax (fun k => sWi T S k n) b : Nat) : Int) ∧ 1 ≤ b) (T 3) (fun b x hb_b iv_b ih_b => ?step_1) (1) (by omega) ?x0_1 ?iv0_1) ?ll0_1
  case ll0_1 =>
    repeat' (first | exact True.intro | with_reducible exact rfl | refine And.intro ?_ ?_ | refine vI ?_ | refine vL ?_)
    all_goals first | rfl | omega
  case iv0_1 =>
    exact ⟨by rw [aMax_1]; rfl, Nat.le_refl _⟩
  have es := aMax_s (fun k => sWi T S k n) b
  have lx := aMax_lt (fun k => sWi T S k n) b iv_b.2
  rw [iv_b.1]
  refine gj_iload (pc' := 7) dX3_whitestHouse_5 rfl rfl ?_
  refine gj_aload_n (pc' := 8) dX3_whitestHouse_7 rfl rfl ?_
  refine gf_X3_71 (pc' := 11) dX3_whitestHouse_8 rfl (by first | rfl | assumption) rfl ?_
  rw [hw]
  refine gj_icmp_ge (pc' := 14) (tgt := 41) dX3_whitestHouse_11 (by decide) rfl (by omega) (fun c11 => ?_) (fun c11 => ?_)
  · refine gj_iload_n (pc' := 42) dX3_whitestHouse_41 rfl rfl ?_
    refine gj_iret rfl dX3_whitestHouse_42 ?_
    exact gR_i (by rw [show T 3 = b by omega])
  · refine gj_aload_n (pc' := 15) dX3_whitestHouse_14 rfl rfl ?_
    refine gj_aload_n (pc' := 16) dX3_whitestHouse_15 rfl rfl ?_
    refine gj_iload (pc' := 18) dX3_whitestHouse_16 rfl rfl ?_
    refine gj_iload_n (pc' := 19) dX3_whitestHouse_18 rfl rfl ?_
    refine gr_X3_95 (pc' := 22) dX3_whitestHouse_19 rfl (s_white hI (by omega) hn) rfl (by first | rfl | assumption) (by decide) rfl (Nat.le_of_ble_eq_true rfl) ?_
    refine gj_aload_n (pc' := 23) dX3_whitestHouse_22 rfl rfl ?_
    refine gj_aload_n (pc' := 24) dX3_whitestHouse_23 rfl rfl ?_
    refine gj_iload_n (pc' := 25) dX3_whitestHouse_24 rfl rfl ?_
    refine gj_iload_n (pc' := 26) dX3_whitestHouse_25 rfl rfl ?_
    refine gr_X3_95 (pc' := 29) dX3_whitestHouse_26 rfl (s_white hI (by omega) hn) rfl (by first | rfl | assumption) (by decide) rfl (Nat.le_of_ble_eq_true rfl) ?_
    refine gj_icmp_le (pc' := 32) (tgt := 35) dX3_whitestHouse_29 (by decide) rfl (by have := sWi_le hT hS (h := b) (by omega) hn; have := sWi_le hT hS (h := aMax (fun k => sWi T S k n) b) (by omega) hn; omega) (fun c29 => ?_) (fun c29 => ?_)
    · refine gj_iinc (pc' := 38) dX3_whitestHouse_35 rfl rfl (by decide) ?_
      refine gj_goto (pc' := 5) dX3_whitestHouse_38 (by decide) ?_
      refine gJ_wk (ih_b ?x_2 (by omega) ?iv_2) ?ll_2
      case ll_2 =>
        repeat' (first | exact True.intro | with_reducible exact rfl | refine And.intro ?_ ?_ | refine vI ?_ | refine vL ?_)
        all_goals omega
      rw [es]
      first | rw [if_pos (by omega)]; exact ⟨rfl, by omega⟩ | rw [if_neg (by omega)]; exact ⟨rfl, by omega⟩
    · refine gj_iload (pc' := 34) dX3_whitestHouse_32 rfl rfl ?_
      refine gj_istore_n (pc' := 35) dX3_whitestHouse_34 rfl (by decide) ?_
      refine gj_iinc (pc' := 38) dX3_whitestHouse_35 rfl rfl (by decide) ?_
      refine gj_goto (pc' := 5) dX3_whitestHouse_38 (by decide) ?_
      refine gJ_wk (ih_b ?x_3 (by omega) ?iv_3) ?ll_3
      case ll_3 =>
        repeat' (first | exact True.intro | with_reducible exact rfl | refine And.intro ?_ ?_ | refine vI ?_ | refine vL ?_)
        all_goals omega
      rw [es]
      first | rw [if_pos (by omega)]; exact ⟨rfl, by omega⟩ | rw [if_neg (by omega)]; exact ⟨rfl, by omega⟩
/-- the first number below N with p, else -2 -/
def fstN (p : Nat → Bool) (N : Nat) : Int := fN (fun k r => if r = -2 ∧ p k = true then (k : Int) else r) (-2) N
theorem fstN_s (p : Nat → Bool) (N : Nat) : fstN p (N + 1) = if fstN p N = -2 ∧ p N = true then (N : Int) else fstN p N := rfl
theorem fstN_no {p : Nat → Bool} : ∀ {N : Nat}, (∀ k, k < N → p k = false) → fstN p N = -2
  | 0, _ => rfl
  | N + 1, h => by
    rw [fstN_s, fstN_no (fun k hk => h k (by omega)), if_neg (by rw [h N (by omega)]; simp)]
theorem fstN_at {p : Nat → Bool} {v : Nat} (hv : p v = true) (hl : ∀ k, k < v → p k = false) : ∀ {N : Nat}, v < N → fstN p N = (v : Int)
  | 0, h => absurd h (by omega)
  | N + 1, h => by
    rw [fstN_s]
    by_cases q : v = N
    · subst q
      rw [fstN_no hl, if_pos ⟨rfl, hv⟩]
    · rw [fstN_at hv hl (N := N) (by omega), if_neg (by omega)]
theorem fstN_thr {p : Nat → Bool} {v : Nat} (h : ∀ k, p k = decide (v ≤ k)) (N : Nat) : fstN p N = if v < N then (v : Int) else -2 := by
  split
  · exact fstN_at (by rw [h]; simp) (fun k hk => by rw [h]; simp; omega) (by omega)
  · exact fstN_no (fun k hk => by rw [h]; simp; omega)
theorem sWh_2 {T S : Nat → Nat} {b : Nat} (hg : sGone S b = false) (day : Nat) : (sWh T S b day == 2) = decide (tSf T b ≤ day) := by
  have hl : T (22 + 5 * b) ≤ tSf T b := by unfold tSf; omega
  unfold sWh
  rw [if_neg (by rw [hg]; decide)]
  by_cases h2 : tSf T b ≤ day
  · rw [if_neg (by omega), if_neg (by omega), decide_eq_true h2]; rfl
  · rw [decide_eq_false h2]
    split
    · rfl
    · rw [if_pos (by omega)]; rfl
theorem sWh_2' {T S : Nat → Nat} {b : Nat} (hg : sGone S b = true) (day : Nat) : sWh T S b day = 3 := by
  unfold sWh
  rw [if_pos hg]
def sTill (T S : Nat → Nat) (b : Nat) : Int := fstN (fun n => sWh T S b (S 20 + n) == 2) 61
theorem sTill_g {T S : Nat → Nat} {b : Nat} (hg : sGone S b = true) : sTill T S b = -2 := fstN_no (fun k _ => by rw [sWh_2' hg]; rfl)
theorem sTill_n {T S : Nat → Nat} {b : Nat} (hg : sGone S b = false) : sTill T S b = if tSf T b - S 20 < 61 then ((tSf T b - S 20 : Nat) : Int) else -2 := by
  refine fstN_thr (fun k => ?_) 61
  rw [sWh_2 hg]
  congr 1
  apply propext
  omega
theorem s_till {h : gH} {t b : Nat} {T S : Nat → Nat} (hI : CI h t T S) (hb : b < T 4) : gSp 3 yX3_daysTillSitting cX3_daysTillSitting 5 (some .int) [.ref 52, .ref t, .int (zI (b : Int)), .int (zI 60)] h (gR (.int (zI (sTill T S b))) h) := by
  obtain ⟨ht, hP, hT, hS, hA, hB, hN⟩ := id hI
  have h4 : T 4 ≤ 7 := hT.2.2.2.2.1
  have hd := hS.2.2.1
  have hsf := tSf_le hT hb
  obtain ⟨s0, -⟩ := shT ht
  refine gSp_of (by decide +kernel) (Nat.le_of_ble_eq_true rfl) ?_
  show gJ RX3 cX3_daysTillSitting 5 (some .int) _ 0 [some (.ref 52), some (.ref t), some (.int (zI (b : Int))), some (.int (zI 60)), none] [] _ _
  refine gj_iconst (pc' := 1) dX3_daysTillSitting_0 rfl ?_
  refine gj_aload_n (pc' := 2) dX3_daysTillSitting_1 rfl rfl ?_
  refine gj_iload_n (pc' := 3) dX3_daysTillSitting_2 rfl rfl ?_
  refine gr_X3_53 (pc' := 6) dX3_daysTillSitting_3 rfl (s_sitsFrom ht hA hB hT hb) rfl (by first | rfl | assumption) (by decide) rfl (Nat.le_of_ble_eq_true rfl) ?_
  refine gj_aload_n (pc' := 7) dX3_daysTillSitting_6 rfl rfl ?_
  refine gf_X3_23 (pc' := 10) dX3_daysTillSitting_7 rfl (by first | rfl | assumption) rfl ?_
  rw [hN.1]
  refine gj_isub (pc' := 11) dX3_daysTillSitting_10 rfl ?_
  refine gj_mmax (pc' := 14) dX3_daysTillSitting_11 rfl wm_X3_92 (by decide) (by omega) (by omega) (Nat.le_of_ble_eq_true rfl) ?_
  refine gj_istore (pc' := 16) dX3_daysTillSitting_14 rfl (by decide) ?_
  refine gj_aload_n (pc' := 17) dX3_daysTillSitting_16 rfl rfl ?_
  refine gj_iload_n (pc' := 18) dX3_daysTillSitting_17 rfl rfl ?_
  refine gr_X3_46 (pc' := 21) dX3_daysTillSitting_18 rfl (s_isGone hI (by omega)) rfl (by first | rfl | assumption) (by decide) rfl (Nat.le_of_ble_eq_true rfl) ?_
  first | refine gj_ifB_ne (pc' := 24) (tgt := 30) dX3_daysTillSitting_21 (by decide) rfl (fun c21 => ?_) (fun c21 => ?_) | refine gj_if_ne (pc' := 24) (tgt := 30) dX3_daysTillSitting_21 (by decide) rfl (by omega) (fun c21 => ?_) (fun c21 => ?_)
  · refine gj_bipush (pc' := 32) dX3_daysTillSitting_30 rfl (by decide) ?_
    refine gj_goto (pc' := 37) dX3_daysTillSitting_32 (by decide) ?_
    refine gj_iret rfl dX3_daysTillSitting_37 ?_
    first | exact gR_i (by rw [sTill_g c21]) | exact gR_i (by rw [sTill_n c21]; first | rw [if_pos (by omega)]; omega | rw [if_neg (by omega)])
  · refine gj_iload (pc' := 26) dX3_daysTillSitting_24 rfl rfl ?_
    refine gj_iload_n (pc' := 27) dX3_daysTillSitting_26 rfl rfl ?_
    refine gj_icmp_le (pc' := 30) (tgt := 35) dX3_daysTillSitting_27 (by decide) rfl (by omega) (fun c27 => ?_) (fun c27 => ?_)
    · refine gj_iload (pc' := 37) dX3_daysTillSitting_35 rfl rfl ?_
      refine gj_iret rfl dX3_daysTillSitting_37 ?_
      first | exact gR_i (by rw [sTill_g c21]) | exact gR_i (by rw [sTill_n c21]; first | rw [if_pos (by omega)]; omega | rw [if_neg (by omega)])
    · refine gj_bipush (pc' := 32) dX3_daysTillSitting_30 rfl (by decide) ?_
      refine gj_goto (pc' := 37) dX3_daysTillSitting_32 (by decide) ?_
      refine gj_iret rfl dX3_daysTillSitting_37 ?_
      first | exact gR_i (by rw [sTill_g c21]) | exact gR_i (by rw [sTill_n c21]; first | rw [if_pos (by omega)]; omega | rw [if_neg (by omega)])
def aN (p : Nat → Bool) : Nat → Bool
  | 0 => true
  | n + 1 => aN p n && p n
def mxN (g : Nat → Nat) : Nat → Nat
  | 0 => 0
  | n + 1 => max (mxN g n) (g n)
def sAll (T S : Nat → Nat) : Int := fstN (fun n => aN (fun b => decide (2 ≤ sWh T S b (S 20 + n))) (T 4)) 61
def sDue (T S : Nat → Nat) (b : Nat) : Nat := if sGone S b then 0 else tSf T b - S 20
theorem sDue_p {T S : Nat → Nat} (b n : Nat) : decide (2 ≤ sWh T S b (S 20 + n)) = decide (sDue T S b ≤ n) := by
  unfold sDue
  cases hg : sGone S b with
  | true => rw [sWh_2' hg]; simp
  | false =>
    have h2 := sWh_2 (T := T) hg (S 20 + n)
    have h3 : sWh T S b (S 20 + n) ≤ 2 := by
      unfold sWh
      rw [if_neg (by rw [hg]; decide)]
      repeat' (first | omega | split)
    simp only [Bool.false_eq_true, if_false]
    by_cases q : tSf T b ≤ S 20 + n
    · rw [decide_eq_true q] at h2
      have h4 : sWh T S b (S 20 + n) = 2 := by simpa using h2
      rw [h4]; simp; omega
    · rw [decide_eq_false q] at h2
      have h4 : ¬ sWh T S b (S 20 + n) = 2 := by simpa using h2
      rw [decide_eq_false (by omega), decide_eq_false (by omega)]
theorem aN_le {g : Nat → Nat} (n : Nat) : ∀ m, aN (fun b => decide (g b ≤ n)) m = decide (mxN g m ≤ n)
  | 0 => by simp [aN, mxN]
  | m + 1 => by
    show (aN _ m && _) = _
    rw [aN_le n m]
    show (decide (mxN g m ≤ n) && decide (g m ≤ n)) = decide (max (mxN g m) (g m) ≤ n)
    rw [Bool.eq_iff_iff]
    simp only [Bool.and_eq_true, decide_eq_true_eq]
    omega
theorem sAll_eq (T S : Nat → Nat) : sAll T S = if mxN (sDue T S) (T 4) < 61 then ((mxN (sDue T S) (T 4) : Nat) : Int) else -2 := by
  refine fstN_thr (fun k => ?_) 61
  rw [← aN_le]
  congr 1
  funext b
  exact sDue_p b k
theorem mxN_ge (g : Nat → Nat) : ∀ m b, b < m → g b ≤ mxN g m
  | m + 1, b, h => by
    show g b ≤ max (mxN g m) (g m)
    rcases Nat.lt_or_ge b m with q | q
    · have := mxN_ge g m b q; omega
    · rw [show b = m by omega]; omega
theorem s_allSit {h : gH} {t : Nat} {T S : Nat → Nat} (hI : CI h t T S) : gSp 4 yX3_daysTillAllSit cX3_daysTillAllSit 6 (some .int) [.ref 52, .ref t, .int (zI 60)] h (gR (.int (zI (sAll T S))) h) := by
  obtain ⟨ht, hP, hT, hS, hA, hB, hN⟩ := id hI
  obtain ⟨s0, -⟩ := shT ht
  have h4 : T 4 ≤ 7 := hT.2.2.2.2.1
  have hd := hS.2.2.1
  have hw : h.1 t 4 = (T 4 : Int) := hA.1 4 (by omega)
  rw [sAll_eq]
  refine gSp_of (by decide +kernel) (Nat.le_of_ble_eq_true rfl) ?_
  show gJ RX3 cX3_daysTillAllSit 6 (some .int) _ 0 [some (.ref 52), some (.ref t), some (.int (zI 60)), none, none, none] [] _ _
  refine gj_iconst (pc' := 1) dX3_daysTillAllSit_0 rfl ?_
  refine gj_istore_n (pc' := 2) dX3_daysTillAllSit_1 rfl (by decide) ?_
  refine gj_iconst (pc' := 3) dX3_daysTillAllSit_2 rfl ?_
  refine gj_istore (pc' := 5) dX3_daysTillAllSit_3 rfl (by decide) ?_
  refine gJ_wk (gJ_fI1 (L := fun b x => [some (.ref 52), some (.ref t), some (.int (zI 60)), some (.int (zI x)), some (.int (zI (b : Int))), none]) (I := fun b x => x = ((mxN (sDue T S) b : Nat) : Int) ∧ x ≤ 60) (T 4) (fun b x hb_b iv_b ih_b => ?step_1) (0) (Nat.zero_le _) ?x0_1 ?iv0_1) ?ll0_1
  case ll0_1 =>
    repeat' (first | exact True.intro | with_reducible exact rfl | refine And.intro ?_ ?_ | refine vI ?_ | refine vL ?_)
    all_goals first | rfl | omega
  case iv0_1 =>
    exact ⟨rfl, by omega⟩
  have es : mxN (sDue T S) (b + 1) = max (mxN (sDue T S) b) (sDue T S b) := rfl
  have ed : sGone S b = true → sDue T S b = 0 := fun q => by unfold sDue; rw [if_pos q]
  have en : sGone S b = false → sDue T S b = tSf T b - S 20 := fun q => by unfold sDue; rw [if_neg (by rw [q]; decide)]
  have eg := mxN_ge (sDue T S) (T 4) b
  refine gj_iload (pc' := 7) dX3_daysTillAllSit_5 rfl rfl ?_
  refine gj_aload_n (pc' := 8) dX3_daysTillAllSit_7 rfl rfl ?_
  refine gf_X3_40 (pc' := 11) dX3_daysTillAllSit_8 rfl (by first | rfl | assumption) rfl ?_
  rw [hw]
  refine gj_icmp_ge (pc' := 14) (tgt := 56) dX3_daysTillAllSit_11 (by decide) rfl (by omega) (fun c11 => ?_) (fun c11 => ?_)
  · refine gj_iload_n (pc' := 57) dX3_daysTillAllSit_56 rfl rfl ?_
    refine gj_iret rfl dX3_daysTillAllSit_57 ?_
    exact gR_i (by rw [show T 4 = b by omega, if_pos (by omega)]; exact iv_b.1)
  · refine gj_aload_n (pc' := 15) dX3_daysTillAllSit_14 rfl rfl ?_
    refine gj_iload (pc' := 17) dX3_daysTillAllSit_15 rfl rfl ?_
    refine gr_X3_46 (pc' := 20) dX3_daysTillAllSit_17 rfl (s_isGone hI (by omega)) rfl (by first | rfl | assumption) (by decide) rfl (Nat.le_of_ble_eq_true rfl) ?_
    first | refine gj_ifB_ne (pc' := 23) (tgt := 50) dX3_daysTillAllSit_20 (by decide) rfl (fun c20 => ?_) (fun c20 => ?_) | refine gj_if_ne (pc' := 23) (tgt := 50) dX3_daysTillAllSit_20 (by decide) rfl (by omega) (fun c20 => ?_) (fun c20 => ?_)
    · refine gj_iinc (pc' := 53) dX3_daysTillAllSit_50 rfl rfl (by decide) ?_
      refine gj_goto (pc' := 5) dX3_daysTillAllSit_53 (by decide) ?_
      refine gJ_wk (ih_b ?x_2 (by omega) ?iv_2) ?ll_2
      case ll_2 =>
        repeat' (first | exact True.intro | with_reducible exact rfl | refine And.intro ?_ ?_ | refine vI ?_ | refine vL ?_)
        all_goals omega
      rw [es]
      first | (have := ed c20; omega) | (have := en c20; omega)
    · refine gj_aload_n (pc' := 24) dX3_daysTillAllSit_23 rfl rfl ?_
      refine gj_aload_n (pc' := 25) dX3_daysTillAllSit_24 rfl rfl ?_
      refine gj_iload (pc' := 27) dX3_daysTillAllSit_25 rfl rfl ?_
      refine gj_iload_n (pc' := 28) dX3_daysTillAllSit_27 rfl rfl ?_
      refine gr_X3_98 (pc' := 31) dX3_daysTillAllSit_28 rfl (s_till hI (by omega)) rfl (by first | rfl | assumption) (by decide) rfl (Nat.le_of_ble_eq_true rfl) ?_
      rw [sTill_n c20]
      generalize hv : (if tSf T b - S 20 < 61 then ((tSf T b - S 20 : Nat) : Int) else -2) = v
      have hv2 : (tSf T b - S 20 < 61 ∧ v = ((tSf T b - S 20 : Nat) : Int)) ∨ (61 ≤ tSf T b - S 20 ∧ v = -2) := by split at hv <;> omega
      refine gj_istore (pc' := 33) dX3_daysTillAllSit_31 rfl (by decide) ?_
      refine gj_iload (pc' := 35) dX3_daysTillAllSit_33 rfl rfl ?_
      refine gj_bipush (pc' := 37) dX3_daysTillAllSit_35 rfl (by decide) ?_
      refine gj_icmp_ne (pc' := 40) (tgt := 43) dX3_daysTillAllSit_37 (by decide) rfl (by omega) (fun c37 => ?_) (fun c37 => ?_)
      · refine gj_iload_n (pc' := 44) dX3_daysTillAllSit_43 rfl rfl ?_
        refine gj_iload (pc' := 46) dX3_daysTillAllSit_44 rfl rfl ?_
        refine gj_mmax (pc' := 49) dX3_daysTillAllSit_46 rfl wm_X3_92 (by decide) (by omega) (by omega) (Nat.le_of_ble_eq_true rfl) ?_
        refine gj_istore_n (pc' := 50) dX3_daysTillAllSit_49 rfl (by decide) ?_
        refine gj_iinc (pc' := 53) dX3_daysTillAllSit_50 rfl rfl (by decide) ?_
        refine gj_goto (pc' := 5) dX3_daysTillAllSit_53 (by decide) ?_
        refine gJ_wk (ih_b ?x_3 (by omega) ?iv_3) ?ll_3
        case ll_3 =>
          repeat' (first | exact True.intro | with_reducible exact rfl | refine And.intro ?_ ?_ | refine vI ?_ | refine vL ?_)
          all_goals omega
        rw [es]
        first | (have := ed c20; omega) | (have := en c20; omega)
      · refine gj_bipush (pc' := 42) dX3_daysTillAllSit_40 rfl (by decide) ?_
        refine gj_iret rfl dX3_daysTillAllSit_42 ?_
        exact gR_i (by have := en c20; have := eg (by omega); rw [if_neg (by omega)])
