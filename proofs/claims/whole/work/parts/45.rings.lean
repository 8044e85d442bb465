/-! rings: walks of wrongs; both sides' inner methods -/
def anyN (p : Nat → Bool) : Nat → Bool
  | 0 => false
  | n + 1 => anyN p n || p n
theorem anyN_t {p : Nat → Bool} : ∀ {n : Nat}, anyN p n = true ↔ ∃ b, b < n ∧ p b = true
  | 0 => ⟨fun h => (by cases h), fun ⟨_, h, _⟩ => absurd h (Nat.not_lt_zero _)⟩
  | n + 1 => by
    have ih := anyN_t (p := p) (n := n)
    show (anyN p n || p n) = true ↔ _
    rw [Bool.or_eq_true]
    constructor
    · intro h
      rcases h with h | h
      · obtain ⟨b, h1, h2⟩ := ih.mp h
        exact ⟨b, by omega, h2⟩
      · exact ⟨n, by omega, h⟩
    · intro ⟨b, h1, h2⟩
      by_cases q : b = n
      · rw [← q]; exact Or.inr h2
      · exact Or.inl (ih.mpr ⟨b, by omega, h2⟩)
theorem anyN_f {p : Nat → Bool} {n : Nat} (h : ∀ b, b < n → p b = false) : anyN p n = false := by
  cases q : anyN p n with
  | false => rfl
  | true =>
    obtain ⟨b, h1, h2⟩ := anyN_t.mp q
    rw [h b h1] at h2
    cases h2
def wrP (T S : Nat → Nat) (k o b : Nat) : Bool := !sGone S b && (T (21 + 5 * b) == k) && (T (20 + 5 * b) == o)
def wr (T S : Nat → Nat) (k o : Nat) : Bool := anyN (wrP T S k o) (T 4)
def wk (W : Nat → Nat → Bool) (N h : Nat) : Nat → Nat → Bool
  | 0, a => a == h
  | n + 1, a => anyN (fun b => W a b && wk W N h n b) N
theorem wk_s {W : Nat → Nat → Bool} {N h n a : Nat} : wk W N h (n + 1) a = true ↔ ∃ b, b < N ∧ W a b = true ∧ wk W N h n b = true := by
  show anyN (fun b => W a b && wk W N h n b) N = true ↔ _
  rw [anyN_t]
  constructor
  · intro ⟨b, h1, h2⟩
    rw [Bool.and_eq_true] at h2
    exact ⟨b, h1, h2.1, h2.2⟩
  · intro ⟨b, h1, h2, h3⟩
    exact ⟨b, h1, by rw [h2, h3]; rfl⟩
theorem wr_self {T S : Nat → Nat} (hT : TV T) (k : Nat) : wr T S k k = false := anyN_f (fun b hb => by
  have := (hT.2.2.2.2.2.2.2.2.1 b hb).2.2.2.1
  unfold wrP
  by_cases q : T (21 + 5 * b) = k
  · have e : (T (20 + 5 * b) == k) = false := by
      rw [beq_eq_false_iff_ne]
      omega
    rw [e, Bool.and_false]
  · have e : (T (21 + 5 * b) == k) = false := by
      rw [beq_eq_false_iff_ne]
      exact q
    rw [e, Bool.and_false, Bool.false_and])
-- a walk is no longer than there are houses, if it is a shortest one
def wkF (W : Nat → Nat → Bool) (N h i k : Nat) : Bool := wk W N h i k && !anyN (fun j => wk W N h j k) i
theorem wkF_t {W : Nat → Nat → Bool} {N h i k : Nat} : wkF W N h i k = true ↔ wk W N h i k = true ∧ ∀ j, j < i → wk W N h j k = false := by
  unfold wkF
  rw [Bool.and_eq_true, Bool.not_eq_true']
  constructor
  · intro ⟨a, b⟩
    refine ⟨a, fun j hj => ?_⟩
    cases q : wk W N h j k with
    | false => rfl
    | true =>
      rw [anyN_t.mpr ⟨j, hj, q⟩] at b
      cases b
  · intro ⟨a, b⟩
    exact ⟨a, anyN_f b⟩
theorem wkF_back {W : Nat → Nat → Bool} {N h i k : Nat} (hq : wkF W N h (i + 1) k = true) : ∃ b, b < N ∧ wkF W N h i b = true := by
  obtain ⟨a, c⟩ := wkF_t.mp hq
  obtain ⟨b, b1, b2, b3⟩ := wk_s.mp a
  refine ⟨b, b1, wkF_t.mpr ⟨b3, fun j hj => ?_⟩⟩
  cases q : wk W N h j b with
  | false => rfl
  | true =>
    have := wk_s.mpr ⟨b, b1, b2, q⟩
    rw [c (j + 1) (by omega)] at this
    cases this
theorem wkF_all {W : Nat → Nat → Bool} {N h : Nat} : ∀ {n k : Nat}, k < N → wkF W N h n k = true → ∀ i, i ≤ n → ∃ b, b < N ∧ wkF W N h i b = true
  | 0, k, hk, hq, i, hi => by
    obtain rfl : i = 0 := by omega
    exact ⟨k, hk, hq⟩
  | n + 1, k, hk, hq, i, hi => by
    by_cases q : i = n + 1
    · rw [q]; exact ⟨k, hk, hq⟩
    · obtain ⟨b, b1, b2⟩ := wkF_back hq
      exact wkF_all b1 b2 i (by omega)
theorem sN_ge {f : Nat → Nat} : ∀ {n : Nat}, (∀ i, i < n → 1 ≤ f i) → n ≤ sN f n
  | 0, _ => Nat.zero_le _
  | n + 1, h => by
    have h1 := sN_ge (f := f) (n := n) (fun i hi => h i (by omega))
    have h2 := h n (by omega)
    show n + 1 ≤ sN f n + f n
    omega
theorem sN_a1 {f : Nat → Nat} {j : Nat} : ∀ {n : Nat}, j < n → f j ≤ sN f n
  | 0, h => absurd h (Nat.not_lt_zero _)
  | n + 1, h => by
    show f j ≤ sN f n + f n
    by_cases q : j = n
    · rw [q]; omega
    · have := sN_a1 (f := f) (j := j) (n := n) (by omega)
      omega
theorem sN_uniq {p : Nat → Bool} (hu : ∀ i j, p i = true → p j = true → i = j) : ∀ n, sN (fun i => (p i).toNat) n ≤ 1
  | 0 => Nat.zero_le _
  | n + 1 => by
    have ih := sN_uniq hu n
    show sN (fun i => (p i).toNat) n + (p n).toNat ≤ 1
    cases q : p n with
    | false => simpa using ih
    | true =>
      have : sN (fun i => (p i).toNat) n = 0 := by
        rw [sN_congr (g := fun _ => 0) (fun i hi => by
          show (p i).toNat = 0
          cases z : p i with
          | false => rfl
          | true => have := hu i n z q; omega)]
        exact sN_zero n
      rw [this]
      exact Nat.le_refl 1
theorem wkF_lt {W : Nat → Nat → Bool} {N h n k : Nat} (hk : k < N) (hq : wkF W N h n k = true) : n < N := by
  have h1 := sN_ge (f := fun i => sN (fun b => (wkF W N h i b).toNat) N) (n := n + 1) (fun i hi => by
    obtain ⟨b, b1, b2⟩ := wkF_all hk hq i (by omega)
    have := sN_a1 (f := fun b => (wkF W N h i b).toNat) b1
    show 1 ≤ sN (fun b => (wkF W N h i b).toNat) N
    have e : (wkF W N h i b).toNat = 1 := by rw [b2]; rfl
    have e2 : (fun b => (wkF W N h i b).toNat) b = 1 := e
    omega)
  have h2 := sN_swap (fun i b => (wkF W N h i b).toNat) N (n + 1)
  have h3 := sN_le (f := fun b => sN (fun i => (wkF W N h i b).toNat) (n + 1)) (c := 1) (n := N) (fun b _ => sN_uniq (p := fun i => wkF W N h i b) (fun i j qi qj => by
    have a := wkF_t.mp qi
    have c := wkF_t.mp qj
    rcases Nat.lt_trichotomy i j with z | z | z
    · rw [c.2 i z] at a; exact absurd a.1 Bool.false_ne_true
    · exact z
    · rw [a.2 j z] at c; exact absurd c.1 Bool.false_ne_true) (n + 1))
  omega
theorem wk_short {W : Nat → Nat → Bool} {N h k : Nat} (hk : k < N) : ∀ n, wk W N h n k = true → ∃ r, r ≤ n ∧ r < N ∧ wk W N h r k = true ∧ ∀ j, j < r → wk W N h j k = false := by
  intro n
  induction n using Nat.strongRecOn with
  | _ n ih =>
    intro hw
    by_cases q : ∃ j, j < n ∧ wk W N h j k = true
    · obtain ⟨j, j1, j2⟩ := q
      obtain ⟨r, r1, r2⟩ := ih j j1 j2
      exact ⟨r, by omega, r2⟩
    · have hf : ∀ j, j < n → wk W N h j k = false := fun j hj => by
        cases z : wk W N h j k with
        | false => rfl
        | true => exact absurd ⟨j, hj, z⟩ q
      exact ⟨n, Nat.le_refl _, wkF_lt hk (wkF_t.mpr ⟨hw, hf⟩), hw, hf⟩
/-- the least steps, else -2 -/
def wkL (W : Nat → Nat → Bool) (N h k : Nat) : Int := fstN (fun n => wk W N h n k) 6
theorem wkL_cs {W : Nat → Nat → Bool} {N h k : Nat} (hN : N ≤ 6) (hk : k < N) : (wkL W N h k = -2 ∧ ∀ n, wk W N h n k = false) ∨ ∃ r : Nat, wkL W N h k = (r : Int) ∧ r < N ∧ wk W N h r k = true ∧ ∀ j, j < r → wk W N h j k = false := by
  by_cases q : ∃ n, wk W N h n k = true
  · obtain ⟨n, hn⟩ := q
    obtain ⟨r, r1, r2, r3, r4⟩ := wk_short hk n hn
    exact Or.inr ⟨r, fstN_at (p := fun n => wk W N h n k) r3 r4 (by omega), r2, r3, r4⟩
  · have hf : ∀ n, wk W N h n k = false := fun n => by
      cases z : wk W N h n k with
      | false => rfl
      | true => exact absurd ⟨n, z⟩ q
    exact Or.inl ⟨fstN_no (fun k _ => hf k), hf⟩
def wkV (x : Int) : Int := if x = -2 then 99 else x
theorem wkV_eq {W : Nat → Nat → Bool} {N h k v : Nat} (hN : N ≤ 6) (hk : k < N) (hv : v ≤ 99) (h1 : v = 99 ∨ wk W N h v k = true) (h2 : ∀ n, n ≤ N → wk W N h n k = true → v ≤ n) : (v : Int) = wkV (wkL W N h k) := by
  unfold wkV
  rcases wkL_cs (W := W) (h := h) hN hk with ⟨e, hf⟩ | ⟨r, e, r1, r2, r3⟩
  · rw [if_pos e]
    rcases h1 with q | q
    · omega
    · rw [hf v] at q; cases q
  · rw [if_neg (by omega), e]
    have a := h2 r (by omega) r2
    rcases h1 with q | q
    · omega
    · rcases Nat.lt_or_ge v r with z | z
      · rw [r3 v z] at q; cases q
      · omega
-- the class: wrongs as bits, steps
theorem bN_or1 {p : Nat → Bool} {n f : Nat} (hf : f < n) : bN p n ||| 2 ^ f = bN (fun i => p i || (i == f)) n := by
  apply Nat.eq_of_testBit_eq
  intro i
  rw [Nat.testBit_or, bN_bit, bN_bit, Nat.testBit_two_pow]
  by_cases q : i = f
  · subst q; simp [hf]
  · have e : (i == f) = false := by rw [beq_eq_false_iff_ne]; exact q
    have e2 : decide (f = i) = false := decide_eq_false (fun z => q z.symm)
    rw [e, e2]
    simp
def rgW (h : gH) (T S : Nat → Nat) : Prop := ∀ k, k < T 3 → h.1 139 k = ((bN (wr T S k) 6 : Nat) : Int)
theorem s_hasWronged {h : gH} {T S : Nat → Nat} {a b : Nat} (hT : TV T) (hR : rgW h T S) (ha : a < T 3) (hb : b < T 3) : gSp 1 yX5_hasWronged cX5_hasWronged 3 (some .boolean) [.ref 138, .int (zI (a : Int)), .int (zI (b : Int))] h (gR (.int (zI (bI (wr T S a b)))) h) := by
  have h3 := hT.2.2.2.1
  have hl := bN_lt (wr T S a) 6
  have e : (bN (wr T S a) 6).testBit b = wr T S a b := by
    rw [bN_bit, decide_eq_true (by omega), Bool.true_and]
  refine gSp_of (by decide +kernel) (Nat.le_of_ble_eq_true rfl) ?_
  show gJ RX5 cX5_hasWronged 3 (some .boolean) _ 0 [some (.ref 138), some (.int (zI (a : Int))), some (.int (zI (b : Int)))] [] _ _
  refine gj_aload_n (pc' := 1) dX5_hasWronged_0 rfl rfl ?_
  refine gf_X5_11 (pc' := 4) dX5_hasWronged_1 rfl (by first | rfl | assumption) rfl ?_
  refine gj_iload_n (pc' := 5) dX5_hasWronged_4 rfl rfl ?_
  refine gj_iald (pc' := 6) (j := a) (by first | rfl | assumption) (by omega) (by omega) (by decide) dX5_hasWronged_5 rfl ?_
  rw [hR a ha]
  refine gj_iload_n (pc' := 7) dX5_hasWronged_6 rfl rfl ?_
  refine gj_ishr (pc' := 8) dX5_hasWronged_7 rfl ?_
  refine gj_iconst (pc' := 9) dX5_hasWronged_8 rfl ?_
  refine gj_iand (pc' := 10) dX5_hasWronged_9 rfl ?_
  rw [bt_bit (by omega) (by omega), e]
  first | refine gj_ifB_eq (pc' := 13) (tgt := 17) dX5_hasWronged_10 (by decide) rfl (fun c10 => ?_) (fun c10 => ?_) | refine gj_if_eq (pc' := 13) (tgt := 17) dX5_hasWronged_10 (by decide) rfl (by omega) (fun c10 => ?_) (fun c10 => ?_)
  · refine gj_iconst (pc' := 18) dX5_hasWronged_17 rfl ?_
    refine gj_zret rfl (by first | rfl | exact gnZ _ | assumption) dX5_hasWronged_18 ?_
    first | exact gR_t c10 | exact gR_f c10
  · refine gj_iconst (pc' := 14) dX5_hasWronged_13 rfl ?_
    refine gj_goto (pc' := 18) dX5_hasWronged_14 (by decide) ?_
    refine gj_zret rfl (by first | rfl | exact gnZ _ | assumption) dX5_hasWronged_18 ?_
    first | exact gR_t c10 | exact gR_f c10
theorem s_findWrongs {h : gH} {t : Nat} {T S : Nat → Nat} (hI : CI h t T S) : gSp 2 yX5_findWrongs cX5_findWrongs 4 none [.ref 138, .ref t, .ref 52] h (fun v h' => v = none ∧ h'.2 = h.2 ∧ (∀ o, o ≠ 139 → h'.1 o = h.1 o) ∧ rgW h' T S) := by
  obtain ⟨ht, hP, hT, hS, hA, hB, hN⟩ := id hI
  obtain ⟨s0, s1, s2, s3, s4, s5, -⟩ := shT ht
  have htt : t = 6 ∨ t = 29 := ht
  have h3 := hT.2.2.2.1
  have h4 : T 4 ≤ 7 := hT.2.2.2.2.1
  refine gSp_of (by decide +kernel) (Nat.le_of_ble_eq_true rfl) ?_
  show gJ RX5 cX5_findWrongs 4 none _ 0 [some (.ref 138), some (.ref t), some (.ref 52), none] [] _ _
  refine gj_iconst (pc' := 1) dX5_findWrongs_0 rfl ?_
  refine gj_istore_n (pc' := 2) dX5_findWrongs_1 rfl (by decide) ?_
  refine gJ_wk (gJ_fH0 (L := fun k  => [some (.ref 138), some (.ref t), some (.ref 52), some (.int (zI (k : Int)))]) (I := fun k  hp => hp.2 = h.2 ∧ (∀ o, o ≠ 139 → hp.1 o = h.1 o) ∧ (∀ i, i < k → hp.1 139 i = 0)) (T 3) (fun k  hp hb_k iv_k ih_k => ?step_1) (0) (Nat.zero_le _)  _ ?iv0_1) ?ll0_1
  case ll0_1 =>
    repeat' (first | exact True.intro | with_reducible exact rfl | refine And.intro ?_ ?_ | refine vI ?_ | refine vL ?_)
    all_goals first | rfl | omega
  case iv0_1 =>
    exact ⟨rfl, fun _ _ => rfl, fun i hi => absurd hi (Nat.not_lt_zero i)⟩
  obtain ⟨i1, i2, i3⟩ := iv_k
  refine gj_iload_n (pc' := 3) dX5_findWrongs_2 rfl rfl ?_
  refine gj_aload_n (pc' := 4) dX5_findWrongs_3 rfl rfl ?_
  refine gf_X5_24 (pc' := 7) dX5_findWrongs_4 rfl (by first | rfl | assumption) rfl ?_
  rw [show hp.1 t 3 = (T 3 : Int) by rw [i2 t (by omega)]; exact hA.1 3 (by omega)]
  refine gj_icmp_ge (pc' := 10) (tgt := 23) dX5_findWrongs_7 (by decide) rfl (by omega) (fun c7 => ?_) (fun c7 => ?_)
  · refine gj_iconst (pc' := 24) dX5_findWrongs_23 rfl ?_
    refine gj_istore_n (pc' := 25) dX5_findWrongs_24 rfl (by decide) ?_
    refine gJ_wk (gJ_fH0 (L := fun b  => [some (.ref 138), some (.ref t), some (.ref 52), some (.int (zI (b : Int)))]) (I := fun b  hp => hp.2 = h.2 ∧ (∀ o, o ≠ 139 → hp.1 o = h.1 o) ∧ (∀ i, i < T 3 → hp.1 139 i = ((bN (fun o => anyN (wrP T S i o) b) 6 : Nat) : Int))) (T 4) (fun b  hp hb_b iv_b ih_b => ?step_2) (0) (Nat.zero_le _)  _ ?iv0_2) ?ll0_2
    case ll0_2 =>
      repeat' (first | exact True.intro | with_reducible exact rfl | refine And.intro ?_ ?_ | refine vI ?_ | refine vL ?_)
      all_goals first | rfl | omega
    case iv0_2 =>
      exact ⟨i1, i2, fun i hi => by
        rw [i3 i (by omega)]
        rfl⟩
    obtain ⟨j1, j2, j3⟩ := iv_b
    have hI2 : CI hp t T S := hI.to2 j1 (fun o o1 o2 => j2 o (by omega)) (fun o o1 o2 => j2 o (by omega))
    obtain ⟨-, -, -, -, hA2, -, -⟩ := id hI2
    refine gj_iload_n (pc' := 26) dX5_findWrongs_25 rfl rfl ?_
    refine gj_aload_n (pc' := 27) dX5_findWrongs_26 rfl rfl ?_
    refine gf_X5_50 (pc' := 30) dX5_findWrongs_27 rfl (by first | rfl | assumption) rfl ?_
    rw [hA2.1 4 (by omega)]
    refine gj_icmp_ge (pc' := 33) (tgt := 69) dX5_findWrongs_30 (by decide) rfl (by omega) (fun c30 => ?_) (fun c30 => ?_)
    · refine gj_vret rfl dX5_findWrongs_69 ?_
      refine ⟨rfl, j1, j2, fun i hi => ?_⟩
      rw [j3 i hi, show b = T 4 by omega]
      rfl
    · refine gj_aload_n (pc' := 34) dX5_findWrongs_33 rfl rfl ?_
      refine gj_iload_n (pc' := 35) dX5_findWrongs_34 rfl rfl ?_
      refine gr_X5_53 (pc' := 38) dX5_findWrongs_35 rfl (s_isGone hI2 (by omega)) rfl (by first | rfl | assumption) (by decide) rfl (Nat.le_of_ble_eq_true rfl) ?_
      first | refine gj_ifB_ne (pc' := 41) (tgt := 63) dX5_findWrongs_38 (by decide) rfl (fun c38 => ?_) (fun c38 => ?_) | refine gj_if_ne (pc' := 41) (tgt := 63) dX5_findWrongs_38 (by decide) rfl (by omega) (fun c38 => ?_) (fun c38 => ?_)
      · refine gj_iinc (pc' := 66) dX5_findWrongs_63 rfl rfl (by decide) ?_
        refine gj_goto (pc' := 25) dX5_findWrongs_66 (by decide) ?_
        refine gJ_wk (ih_b  _ (by omega) ?iv_3) ?ll_3
        case ll_3 =>
          repeat' (first | exact True.intro | with_reducible exact rfl | refine And.intro ?_ ?_ | refine vI ?_ | refine vL ?_)
          all_goals omega
        have hst : ∀ i o, anyN (wrP T S i o) (b + 1) = (anyN (wrP T S i o) b || wrP T S i o b) := fun _ _ => rfl
        first
        | (refine ⟨j1, fun o ho => (gui_n ho).trans (j2 o ho), fun i hi => ?_⟩
           simp only [hst]
           rw [gui_s]
           have h9 := hT.2.2.2.2.2.2.2.2.1 b (by omega)
           by_cases q : i = T (21 + 5 * b)
           · rw [q, up1_s]
             congr 2
             funext o
             unfold wrP
             rw [c38]
             simp only [Bool.not_false, Bool.true_and, beq_self_eq_true]
             congr 1
             exact Bool.beq_comm
           · rw [up1_n q, j3 i hi]
             congr 2
             funext o
             unfold wrP
             have e : (T (21 + 5 * b) == i) = false := by rw [beq_eq_false_iff_ne]; exact fun z => q z.symm
             rw [e]
             simp)
        | (refine ⟨j1, j2, fun i hi => ?_⟩
           simp only [hst]
           rw [j3 i hi]
           congr 2
           funext o
           unfold wrP
           rw [c38]
           simp)
      · have h9 := hT.2.2.2.2.2.2.2.2.1 b (by omega)
        have hl := bN_lt (fun o => anyN (wrP T S (T (21 + 5 * b)) o) b) 6
        have h64 : 2 ^ T (20 + 5 * b) ≤ 2 ^ 5 := Nat.pow_le_pow_right (n := 2) (by omega) (by omega)
        refine gj_aload_n (pc' := 42) dX5_findWrongs_41 rfl rfl ?_
        refine gf_X5_11 (pc' := 45) dX5_findWrongs_42 rfl (by first | rfl | assumption) rfl ?_
        refine gj_aload_n (pc' := 46) dX5_findWrongs_45 rfl rfl ?_
        refine gf_X5_59 (pc' := 49) dX5_findWrongs_46 rfl (by first | rfl | assumption) rfl ?_
        refine gj_iload_n (pc' := 50) dX5_findWrongs_49 rfl rfl ?_
        refine gj_iald (pc' := 51) (by first | rfl | assumption) rfl (by omega) (by decide) dX5_findWrongs_50 rfl ?_
        rw [(hA2.2.2 b (by omega)).2.2.1]
        refine gj_dup2 (pc' := 52) dX5_findWrongs_51 rfl rfl rfl ?_
        refine gj_iald (pc' := 53) (j := T (21 + 5 * b)) (by first | rfl | assumption) (by omega) (by omega) (by decide) dX5_findWrongs_52 rfl ?_
        rw [j3 _ h9.2.2.1]
        refine gj_iconst (pc' := 54) dX5_findWrongs_53 rfl ?_
        refine gj_aload_n (pc' := 55) dX5_findWrongs_54 rfl rfl ?_
        refine gf_X5_62 (pc' := 58) dX5_findWrongs_55 rfl (by first | rfl | assumption) rfl ?_
        refine gj_iload_n (pc' := 59) dX5_findWrongs_58 rfl rfl ?_
        refine gj_iald (pc' := 60) (by first | rfl | assumption) rfl (by omega) (by decide) dX5_findWrongs_59 rfl ?_
        rw [(hA2.2.2 b (by omega)).2.1]
        refine gj_ishl (pc' := 61) dX5_findWrongs_60 rfl ?_
        rw [bt_shl1 (by omega)]
        refine gj_ior (pc' := 62) dX5_findWrongs_61 rfl ?_
        rw [bt_or (by omega) (by omega), bN_or1 (by omega)]
        refine gj_iast (pc' := 63) (j := T (21 + 5 * b)) (by first | rfl | assumption) (by omega) (by omega) (by decide) dX5_findWrongs_62 rfl ?_
        refine gj_iinc (pc' := 66) dX5_findWrongs_63 rfl rfl (by decide) ?_
        refine gj_goto (pc' := 25) dX5_findWrongs_66 (by decide) ?_
        refine gJ_wk (ih_b  _ (by omega) ?iv_4) ?ll_4
        case ll_4 =>
          repeat' (first | exact True.intro | with_reducible exact rfl | refine And.intro ?_ ?_ | refine vI ?_ | refine vL ?_)
          all_goals omega
        have hst : ∀ i o, anyN (wrP T S i o) (b + 1) = (anyN (wrP T S i o) b || wrP T S i o b) := fun _ _ => rfl
        first
        | (refine ⟨j1, fun o ho => (gui_n ho).trans (j2 o ho), fun i hi => ?_⟩
           simp only [hst]
           rw [gui_s]
           have h9 := hT.2.2.2.2.2.2.2.2.1 b (by omega)
           by_cases q : i = T (21 + 5 * b)
           · rw [q, up1_s]
             congr 2
             funext o
             unfold wrP
             rw [c38]
             simp only [Bool.not_false, Bool.true_and, beq_self_eq_true]
             congr 1
             exact Bool.beq_comm
           · rw [up1_n q, j3 i hi]
             congr 2
             funext o
             unfold wrP
             have e : (T (21 + 5 * b) == i) = false := by rw [beq_eq_false_iff_ne]; exact fun z => q z.symm
             rw [e]
             simp)
        | (refine ⟨j1, j2, fun i hi => ?_⟩
           simp only [hst]
           rw [j3 i hi]
           congr 2
           funext o
           unfold wrP
           rw [c38]
           simp)
  · refine gj_aload_n (pc' := 11) dX5_findWrongs_10 rfl rfl ?_
    refine gf_X5_11 (pc' := 14) dX5_findWrongs_11 rfl (by first | rfl | assumption) rfl ?_
    refine gj_iload_n (pc' := 15) dX5_findWrongs_14 rfl rfl ?_
    refine gj_iconst (pc' := 16) dX5_findWrongs_15 rfl ?_
    refine gj_iast (pc' := 17) (j := k) (by first | rfl | assumption) (by omega) (by omega) (by decide) dX5_findWrongs_16 rfl ?_
    refine gj_iinc (pc' := 20) dX5_findWrongs_17 rfl rfl (by decide) ?_
    refine gj_goto (pc' := 2) dX5_findWrongs_20 (by decide) ?_
    refine gJ_wk (ih_k  _ (by omega) ?iv_5) ?ll_5
    case ll_5 =>
      repeat' (first | exact True.intro | with_reducible exact rfl | refine And.intro ?_ ?_ | refine vI ?_ | refine vL ?_)
      all_goals omega
    refine ⟨i1, fun o ho => (gui_n ho).trans (i2 o ho), fun i hi => ?_⟩
    rw [gui_s]
    by_cases q : i = k
    · rw [q, up1_s]
    · rw [up1_n q]; exact i3 i (by omega)
