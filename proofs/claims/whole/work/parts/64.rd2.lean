/-! the class's Reader: names -/
theorem wdN_cg {f g : Nat → Nat} : ∀ {n : Nat}, (∀ i, i < n → f i = g i) → wdN f n = wdN g n
  | 0, _ => rfl
  | n + 1, h => by
    show wdN f n * 32 + f n % 32 = wdN g n * 32 + g n % 32
    rw [wdN_cg (fun i hi => h i (by omega)), h n (by omega)]
/-- small letters: the numbers tell the words apart -/
theorem wdN_inj {f g : Nat → Nat} : ∀ {m n : Nat}, (∀ i, i < m → 97 ≤ f i ∧ f i ≤ 122) → (∀ i, i < n → 97 ≤ g i ∧ g i ≤ 122) → wdN f m = wdN g n → m = n ∧ ∀ i, i < m → f i = g i
  | 0, 0, _, _, _ => ⟨rfl, fun i hi => absurd hi (Nat.not_lt_zero i)⟩
  | 0, n + 1, _, hg, h => by
    have a := hg n (by omega)
    have h : 0 = wdN g n * 32 + g n % 32 := h
    omega
  | m + 1, 0, hf, _, h => by
    have a := hf m (by omega)
    have h : wdN f m * 32 + f m % 32 = 0 := h
    omega
  | m + 1, n + 1, hf, hg, h => by
    have a := hf m (by omega)
    have b := hg n (by omega)
    have h : wdN f m * 32 + f m % 32 = wdN g n * 32 + g n % 32 := h
    have ih := wdN_inj (f := f) (g := g) (m := m) (n := n) (fun i hi => hf i (by omega)) (fun i hi => hg i (by omega)) (by omega)
    refine ⟨by omega, fun i hi => ?_⟩
    by_cases q : i = m
    · rw [q, show m = n from ih.1]
      have e : f n = g n := by
        rw [← ih.1] at b ⊢
        rw [← ih.1] at h
        omega
      exact e
    · exact ih.2 i (by omega)
def nmC (T : Nat → Nat) (n : Nat) : Nat := wdN (fun k => T (91 + 8 * n + k)) (T (75 + n))
def fd (T : Nat → Nat) (c : Nat) : Int := fstN (fun n => decide (T (75 + n) ≠ 0) && decide (nmC T n = c)) 16
/-- the names as they must be -/
def NU (T : Nat → Nat) : Prop := (∀ n, n < 16 → T (75 + n) ≤ 8 ∧ ∀ k, k < T (75 + n) → 97 ≤ T (91 + 8 * n + k) ∧ T (91 + 8 * n + k) ≤ 122) ∧ ∀ n n', n < 16 → n' < 16 → T (75 + n) ≠ 0 → T (75 + n') ≠ 0 → nmC T n = nmC T n' → n = n'
def CN (h : gH) (T : Nat → Nat) (m : Nat) (sl : Nat → Nat) : Prop := h.1 1 3 = (m : Int) ∧ (∀ i, i < m → sl i < 16 ∧ h.2.1 4 i = (nmC T (sl i) : Int) ∧ T (75 + sl i) ≠ 0 ∧ h.1 5 i = (if sl i < 6 then (sl i : Int) else -1)) ∧ (∀ n, n < 16 → T (75 + n) ≠ 0 → ∃ i, i < m ∧ sl i = n) ∧ (∀ i j, i < m → j < m → sl i = sl j → i = j)
theorem CN_le {h : gH} {T : Nat → Nat} {m : Nat} {sl : Nat → Nat} (hN : CN h T m sl) : m ≤ 16 ∧ ∀ s, s < 16 → T (75 + s) = 0 → m ≤ 15 := by
  obtain ⟨-, a1, -, a3⟩ := hN
  have h1 : ∀ P : Nat → Bool, (∀ i, i < m → P (sl i) = true) → m ≤ sN (fun n => (P n).toNat) 16 := fun P hP => by
    have e1 := sN_ge (f := fun i => sN (fun n => (decide (sl i = n) && decide (i < m)).toNat) 16) (n := m) (fun i hi => by
      have := sN_a1 (f := fun n => (decide (sl i = n) && decide (i < m)).toNat) (a1 i hi).1
      have e : (decide (sl i = sl i) && decide (i < m)).toNat = 1 := by rw [decide_eq_true rfl, decide_eq_true hi]; rfl
      have e2 : (fun n => (decide (sl i = n) && decide (i < m)).toNat) (sl i) = 1 := e
      show 1 ≤ sN (fun n => (decide (sl i = n) && decide (i < m)).toNat) 16
      omega)
    have e2 := sN_swap (fun i n => (decide (sl i = n) && decide (i < m)).toNat) 16 m
    have e3 : sN (fun n => sN (fun i => (decide (sl i = n) && decide (i < m)).toNat) m) 16 ≤ sN (fun n => (P n).toNat) 16 := sN_mono (fun n _ => by
      show sN (fun i => (decide (sl i = n) && decide (i < m)).toNat) m ≤ (P n).toNat
      cases q : P n with
      | true =>
        exact sN_uniq (p := fun i => decide (sl i = n) && decide (i < m)) (fun i j qi qj => by
          simp only [Bool.and_eq_true, decide_eq_true_eq] at qi qj
          exact a3 i j qi.2 qj.2 (by omega)) m
      | false =>
        have : sN (fun i => (decide (sl i = n) && decide (i < m)).toNat) m = 0 := by
          rw [sN_congr (g := fun _ => 0) (fun i hi => by
            show (decide (sl i = n) && decide (i < m)).toNat = 0
            by_cases z : sl i = n
            · have := hP i hi
              rw [z, q] at this
              cases this
            · rw [decide_eq_false z]; rfl)]
          exact sN_zero m
        rw [this]
        exact Nat.zero_le _)
    omega
  refine ⟨h1 (fun _ => true) (fun _ _ => rfl), fun s hs h0 => ?_⟩
  have key : ∀ s, s < 16 → sN (fun n => (!decide (n = s)).toNat) 16 ≤ 15 := by decide +kernel
  refine Nat.le_trans (h1 (fun n => !decide (n = s)) (fun i hi => ?_)) (key s hs)
  have := (a1 i hi).2.2.1
  by_cases z : sl i = s
  · rw [z] at this; exact absurd h0 this
  · rw [decide_eq_false z]; rfl
theorem nmC_lt {T : Nat → Nat} (hU : NU T) {n : Nat} (hn : n < 16) : nmC T n < 1099511627776 := wdN_8 _ (hU.1 n hn).1
theorem fd_cs {T : Nat → Nat} (c : Nat) : (fd T c = -2 ∧ ∀ n, n < 16 → T (75 + n) ≠ 0 → nmC T n ≠ c) ∨ ∃ n : Nat, n < 16 ∧ fd T c = (n : Int) ∧ T (75 + n) ≠ 0 ∧ nmC T n = c := by
  rcases fstN_cs (p := fun n => decide (T (75 + n) ≠ 0) && decide (nmC T n = c)) 16 with ⟨e, hf⟩ | ⟨v, v1, e, v2, -⟩
  · refine Or.inl ⟨e, fun n hn h1 h2 => ?_⟩
    have := hf n hn
    rw [decide_eq_true h1, decide_eq_true h2] at this
    cases this
  · simp only [Bool.and_eq_true, decide_eq_true_eq] at v2
    exact Or.inr ⟨v, v1, e, v2.1, v2.2⟩
theorem s_nameAt {h : gH} {T : Nat → Nat} {m c : Nat} {sl : Nat → Nat} (hN : CN h T m sl) (hU : NU T) (hc : c < 1099511627776) : gSp 1 yX4_nameAt cX4_nameAt 4 (some .int) [.ref 1, .long (zL (c : Int))] h (fun v h' => h' = h ∧ ∃ r : Int, v = some (.int (zI r)) ∧ ((r = -1 ∧ fd T c = -2) ∨ ∃ i : Nat, r = (i : Int) ∧ i < m ∧ fd T c = (sl i : Int))) := by
  have hm := (CN_le hN).1
  obtain ⟨n1, n2, n3, n4⟩ := id hN
  have hcs := fd_cs (T := T) c
  have huq := hU.2
  refine gSp_of (by decide +kernel) (Nat.le_of_ble_eq_true rfl) ?_
  show gJ RX4 cX4_nameAt 4 (some .int) _ 0 [some (.ref 1), some (.long (zL (c : Int))), none, none] [] _ _
  refine gj_iconst (pc' := 1) dX4_nameAt_0 rfl ?_
  refine gj_istore_n (pc' := 2) dX4_nameAt_1 rfl (by decide) ?_
  refine gJ_wk (gJ_fH0 (L := fun i  => [some (.ref 1), some (.long (zL (c : Int))), none, some (.int (zI (i : Int)))]) (I := fun i  hp => hp = h ∧ (∀ j, j < i → nmC T (sl j) ≠ c)) (m) (fun i  hp hb_i iv_i ih_i => ?step_1) (0) (Nat.zero_le _)  _ ?iv0_1) ?ll0_1
  case ll0_1 =>
    repeat' (first | exact True.intro | with_reducible exact rfl | refine And.intro ?_ ?_ | refine vI ?_ | refine vL ?_)
    all_goals first | rfl | omega
  case iv0_1 =>
    exact ⟨rfl, fun j hj => absurd hj (Nat.not_lt_zero j)⟩
  obtain ⟨rfl, i2⟩ := iv_i
  refine gj_iload_n (pc' := 3) dX4_nameAt_2 rfl rfl ?_
  refine gj_aload_n (pc' := 4) dX4_nameAt_3 rfl rfl ?_
  refine gf_X4_42 (pc' := 7) dX4_nameAt_4 rfl (by first | rfl | assumption) rfl ?_
  rw [n1]
  refine gj_icmp_ge (pc' := 10) (tgt := 29) dX4_nameAt_7 (by decide) rfl (by omega) (fun c7 => ?_) (fun c7 => ?_)
  · refine gj_iconst (pc' := 30) dX4_nameAt_29 rfl ?_
    refine gj_iret rfl dX4_nameAt_30 ?_
    refine ⟨rfl, -1, rfl, Or.inl ⟨rfl, ?_⟩⟩
    rcases hcs with ⟨e2, _⟩ | ⟨n, n9, e2, e3, e4⟩
    · exact e2
    · obtain ⟨i', i1', i2'⟩ := n3 n n9 e3
      exact absurd (show nmC T (sl i') = c by rw [i2', e4]) (i2 i' (by omega))
  · obtain ⟨a1, a2, a3, a4⟩ := n2 i (by omega)
    have hlt := nmC_lt hU a1
    refine gj_aload_n (pc' := 11) dX4_nameAt_10 rfl rfl ?_
    refine gf_X4_22 (pc' := 14) dX4_nameAt_11 rfl (by first | rfl | assumption) rfl ?_
    refine gj_iload_n (pc' := 15) dX4_nameAt_14 rfl rfl ?_
    refine gj_lald (pc' := 16) (j := i) (by first | rfl | assumption) (by omega) (by omega) (by decide) dX4_nameAt_15 rfl ?_
    rw [a2]
    refine gj_lload_n (pc' := 17) dX4_nameAt_16 rfl rfl ?_
    refine gj_lcmp (pc' := 18) dX4_nameAt_17 rfl (by omega) (by omega) ?_
    refine gj_if_ne (pc' := 21) (tgt := 23) dX4_nameAt_18 (by decide) rfl (by split <;> (try split) <;> omega) (fun c18 => ?_) (fun c18 => ?_)
    · refine gj_iinc (pc' := 26) dX4_nameAt_23 rfl rfl (by decide) ?_
      refine gj_goto (pc' := 2) dX4_nameAt_26 (by decide) ?_
      refine gJ_wk (ih_i  _ (by omega) ?iv_2) ?ll_2
      case ll_2 =>
        repeat' (first | exact True.intro | with_reducible exact rfl | refine And.intro ?_ ?_ | refine vI ?_ | refine vL ?_)
        all_goals omega
      refine ⟨rfl, fun j hj => ?_⟩
      by_cases q : j = i
      · rw [q]
        intro z
        rw [z, if_neg (by omega), if_pos rfl] at c18
        exact c18 rfl
      · exact i2 j (by omega)
    · refine gj_iload_n (pc' := 22) dX4_nameAt_21 rfl rfl ?_
      refine gj_iret rfl dX4_nameAt_22 ?_
      have e : nmC T (sl i) = c := by
        have c := c18
        split at c
        · omega
        · split at c <;> omega
      refine ⟨rfl, i, rfl, Or.inr ⟨i, rfl, by omega, ?_⟩⟩
      rcases hcs with ⟨_, hf⟩ | ⟨n, n9, e2, e3, e4⟩
      · exact absurd e (hf _ a1 a3)
      · rw [e2, huq n (sl i) n9 a1 e3 a3 (by rw [e, e4])]
/-- a name told -/
def adN (T : Nat → Nat) (s ln : Nat) (f : Nat → Nat) (x : Nat) : Nat := if x = 75 + s then ln else if 91 + 8 * s ≤ x ∧ x < 91 + 8 * s + ln then f (x - (91 + 8 * s)) else T x
theorem adN_lo {T : Nat → Nat} {s ln x : Nat} {f : Nat → Nat} (hx : x < 75) : adN T s ln f x = T x := by
  unfold adN
  rw [if_neg (by omega), if_neg (by omega)]
theorem adN_sz {T : Nat → Nat} {s ln n : Nat} {f : Nat → Nat} (hn : n < 16) (hs : n ≠ s) : adN T s ln f (75 + n) = T (75 + n) := by
  unfold adN
  rw [if_neg (by omega), if_neg (by omega)]
theorem adN_s {T : Nat → Nat} {s ln : Nat} {f : Nat → Nat} : adN T s ln f (75 + s) = ln := if_pos rfl
theorem adN_let {T : Nat → Nat} {s ln n k : Nat} {f : Nat → Nat} (hs16 : s < 16) (hs : n ≠ s) (hl : ln ≤ 8) (hk : k < 8) : adN T s ln f (91 + 8 * n + k) = T (91 + 8 * n + k) := by
  unfold adN
  rw [if_neg (by omega), if_neg (by omega)]
theorem adN_sl {T : Nat → Nat} {s ln k : Nat} {f : Nat → Nat} (hs16 : s < 16) (hk : k < ln) : adN T s ln f (91 + 8 * s + k) = f k := by
  unfold adN
  rw [if_neg (by omega), if_pos (by omega), show 91 + 8 * s + k - (91 + 8 * s) = k by omega]
theorem adN_C {T : Nat → Nat} {s ln n : Nat} {f : Nat → Nat} (hU : NU T) (hs16 : s < 16) (hl : ln ≤ 8) (hn : n < 16) : nmC (adN T s ln f) n = if n = s then wdN f ln else nmC T n := by
  unfold nmC
  by_cases q : n = s
  · subst q
    rw [if_pos rfl, adN_s]
    exact wdN_cg (fun i hi => adN_sl hs16 hi)
  · rw [if_neg q, adN_sz hn q]
    exact wdN_cg (fun i hi => adN_let hs16 q hl (by have := (hU.1 n hn).1; omega))
theorem adN_U {T : Nat → Nat} {s ln : Nat} {f : Nat → Nat} (hU : NU T) (hs16 : s < 16) (hl : ln ≤ 8) (hf : ∀ k, k < ln → 97 ≤ f k ∧ f k ≤ 122) (h0 : T (75 + s) = 0) (hfd : fd T (wdN f ln) = -2) : NU (adN T s ln f) := by
  have hne : ∀ n, n < 16 → T (75 + n) ≠ 0 → nmC T n ≠ wdN f ln := by
    rcases fd_cs (T := T) (wdN f ln) with ⟨_, q⟩ | ⟨n, _, e, _⟩
    · exact q
    · omega
  refine ⟨fun n hn => ?_, fun n n' hn hn' h1 h2 he => ?_⟩
  · by_cases q : n = s
    · subst q
      rw [adN_s]
      exact ⟨hl, fun k hk => by rw [adN_sl hs16 hk]; exact hf k hk⟩
    · rw [adN_sz hn q]
      obtain ⟨a, b⟩ := hU.1 n hn
      exact ⟨a, fun k hk => by rw [adN_let hs16 q hl (by omega)]; exact b k hk⟩
  · rw [adN_C hU hs16 hl hn, adN_C hU hs16 hl hn'] at he
    by_cases q : n = s
    · by_cases q2 : n' = s
      · omega
      · rw [if_pos q, if_neg q2] at he
        rw [adN_sz hn' q2] at h2
        exact absurd he.symm (hne n' hn' h2)
    · by_cases q2 : n' = s
      · rw [if_neg q, if_pos q2] at he
        rw [adN_sz hn q] at h1
        exact absurd he (hne n hn h1)
      · rw [if_neg q, if_neg q2] at he
        rw [adN_sz hn q] at h1
        rw [adN_sz hn' q2] at h2
        exact hU.2 n n' hn hn' h1 h2 he
/-- the letters of a word -/
theorem tk_let {B : Nat → Nat} {e p : Nat} (hp : p ≤ e) (h : tSr B e p = 1) : tLn B e p ≤ 8 ∧ 1 ≤ tLn B e p ∧ ∀ i, i < tLn B e p → 97 ≤ B (tS B e p + i) ∧ B (tS B e p + i) ≤ 122 := by
  obtain ⟨h1, h2⟩ := tSr_1 h
  have hs := tS_in (B := B) hp
  have hlt : tS B e p < e := by
    rcases Nat.lt_or_ge (tS B e p) e with z | z
    · exact z
    · unfold tSo at h1
      rw [if_neg (by omega)] at h1
      omega
  have hen : tEn B e p = tR B e 1 (tS B e p) := by
    unfold tEn
    rw [h1, if_pos (Or.inl rfl)]
  have hso : soB (B (tS B e p)) = 1 := by
    unfold tSo at h1
    rw [if_pos hlt] at h1
    exact h1
  have hgt := tR_gt (B := B) (e := e) hlt hso
  have hin := (tR_in (B := B) (e := e) (s := 1) (p := tS B e p) (by omega)).2
  refine ⟨h2, by unfold tLn; omega, fun i hi => ?_⟩
  have := hin (tS B e p + i) (by omega) (by unfold tLn at hi; omega)
  unfold soB at this
  split at this
  · omega
  · split at this
    · omega
    · split at this <;> omega
theorem tNm_1 {B : Nat → Nat} {e p : Nat} (h : tNm B e p = true) : tSr B e p = 1 := by
  unfold tNm at h
  simp only [Bool.and_eq_true, decide_eq_true_eq] at h
  exact h.1.1.1.1.1
def ptM (B : Nat → Nat) (e : Nat) (T : Nat → Nat) (p : Nat) : Nat × Nat × Nat := if tNm B e p = false then (1, tS B e p, 0) else if fd T (tWd B e p) ≠ -2 then (3, tS B e p, 0) else (0, 0, tEn B e p)
def tkN (B : Nat → Nat) (e : Nat) (T : Nat → Nat) (s p : Nat) : Nat → Nat := adN T s (tLn B e p) (fun i => B (tS B e p + i))
/-- what a new name leaves -/
def rnE (h h' : gH) : Prop := h'.2.2 = h.2.2 ∧ (∀ o, o ≠ 1 → o ≠ 2 → o ≠ 5 → h'.1 o = h.1 o) ∧ (∀ o, o ≠ 2 → o ≠ 4 → h'.2.1 o = h.2.1 o) ∧ (∀ k, (k < 3 ∨ k = 4 ∨ 7 < k) → h'.1 1 k = h.1 1 k) ∧ (∀ k, k < 3 → h'.1 2 k = h.1 2 k)
theorem reE.rn {h h' : gH} (a : reE h h') : rnE h h' := ⟨a.1, fun o o1 o2 _ => a.2.1 o o1 o2, fun o o2 _ => a.2.2.1 o o2, fun k hk => a.2.2.2.1 k (by omega), a.2.2.2.2⟩
theorem rnE.tr {h h1 h2 : gH} (a : rnE h h1) (b : rnE h1 h2) : rnE h h2 := ⟨b.1.trans a.1, fun o o1 o2 o5 => (b.2.1 o o1 o2 o5).trans (a.2.1 o o1 o2 o5), fun o o2 o4 => (b.2.2.1 o o2 o4).trans (a.2.2.1 o o2 o4), fun k hk => (b.2.2.2.1 k hk).trans (a.2.2.2.1 k hk), fun k hk => (b.2.2.2.2 k hk).trans (a.2.2.2.2 k hk)⟩
theorem CN.to {h h' : gH} {T : Nat → Nat} {m : Nat} {sl : Nat → Nat} (a : CN h T m sl) (e3 : h'.1 1 3 = h.1 1 3) (e5 : h'.1 5 = h.1 5) (l4 : h'.2.1 4 = h.2.1 4) : CN h' T m sl := by
  obtain ⟨a0, a1, a2, a3⟩ := a
  exact ⟨e3.trans a0, fun i hi => by rw [e5, l4]; exact a1 i hi, a2, a3⟩
theorem CN.re {h h' : gH} {T : Nat → Nat} {m : Nat} {sl : Nat → Nat} (a : CN h T m sl) (q : reE h h') : CN h' T m sl := a.to (q.2.2.2.1 3 (by decide)) (q.2.1 5 (by decide) (by decide)) (q.2.2.1 4 (by decide))
theorem s_newName {h : gH} {B : Nat → Nat} {e p s m : Nat} {T sl : Nat → Nat} (hC : CTk h B e p) (hN : CN h T m sl) (hU : NU T) (hs : s < 16) (h0 : T (75 + s) = 0) : gSp 7 yX4_takeNewName cX4_takeNewName 2 (some .boolean) [.ref 1, .int (zI (if s < 6 then (s : Int) else -1))] h (fun v h' => v = some (.int (zI (bI (decide ((ptM B e T p).1 = 0))))) ∧ rnE h h' ∧ ((ptM B e T p).1 = 0 → CTk h' B e (ptM B e T p).2.2 ∧ h'.1 1 5 = h.1 1 5 ∧ NU (tkN B e T s p) ∧ ∃ m' sl', CN h' (tkN B e T s p) m' sl') ∧ ((ptM B e T p).1 ≠ 0 → h'.1 1 6 = ((ptM B e T p).1 : Int) ∧ h'.1 1 7 = ((ptM B e T p).2.1 : Int))) := by
  have hr : ptM B e T p = if tNm B e p = false then (1, tS B e p, 0) else if fd T (tWd B e p) ≠ -2 then (3, tS B e p, 0) else (0, 0, tEn B e p) := rfl
  have hle := CN_le hN
  obtain ⟨hm16, hm15⟩ := hle
  have hm15 := hm15 s hs h0
  obtain ⟨n1, n2, n3, n4⟩ := id hN
  obtain ⟨hs2, hsv⟩ : ∃ x : Int, x = (if s < 6 then (s : Int) else -1) := ⟨_, rfl⟩
  rw [← hsv]
  have hT := hC.2.2.2.2.2.1
  refine gSp_of (by decide +kernel) (Nat.le_of_ble_eq_true rfl) ?_
  show gJ RX4 cX4_takeNewName 2 (some .boolean) _ 0 [some (.ref 1), some (.int (zI hs2))] [] _ _
  refine gj_aload_n (pc' := 1) dX4_takeNewName_0 rfl rfl ?_
  refine gf_X4_16 (pc' := 4) dX4_takeNewName_1 rfl (by first | rfl | assumption) rfl ?_
  refine gr_X4_214 (pc' := 7) dX4_takeNewName_4 rfl (s_isName hC) rfl (by first | rfl | assumption) (by decide) rfl (Nat.le_of_ble_eq_true rfl) ?_
  first | refine gj_ifB_ne (pc' := 10) (tgt := 16) dX4_takeNewName_7 (by decide) rfl (fun c7 => ?_) (fun c7 => ?_) | refine gj_if_ne (pc' := 10) (tgt := 16) dX4_takeNewName_7 (by decide) rfl (by omega) (fun c7 => ?_) (fun c7 => ?_)
  · have hs1 := tNm_1 c7
    have htl := tk_let hC.2.1 hs1
    have hwl : tWd B e p < 1099511627776 := wdN_8 _ htl.1
    rw [if_neg (by rw [c7]; decide)] at hr
    refine gj_aload_n (pc' := 17) dX4_takeNewName_16 rfl rfl ?_
    refine gj_aload_n (pc' := 18) dX4_takeNewName_17 rfl rfl ?_
    refine gf_X4_16 (pc' := 21) dX4_takeNewName_18 rfl (by first | rfl | assumption) rfl ?_
    refine gf_X4_217 (pc' := 24) dX4_takeNewName_21 rfl (by first | rfl | assumption) rfl ?_
    rw [hT hs1]
    refine gc_X4_221 (pc' := 27) dX4_takeNewName_24 rfl (s_nameAt hN hU hwl) rfl (by first | rfl | assumption) (by decide) rfl (Nat.le_of_ble_eq_true rfl) (fun v9 h9 q9 => ?_)
    obtain ⟨e9, r, rfl, hra⟩ := q9
    rw [e9]
    clear e9
    have hrb : (r = -1 ∧ fd T (tWd B e p) = -2) ∨ (0 ≤ r ∧ r < 16 ∧ fd T (tWd B e p) ≠ -2) := by
      rcases hra with q | ⟨i, i1, i2, i3⟩
      · exact Or.inl q
      · exact Or.inr ⟨by omega, by omega, by omega⟩
    clear hra
    show gJ _ _ _ _ _ _ _ (.int (zI r) :: _) _ _
    refine gj_if_lt (pc' := 30) (tgt := 36) dX4_takeNewName_27 (by decide) rfl (by omega) (fun c27 => ?_) (fun c27 => ?_)
    · refine gj_aload_n (pc' := 37) dX4_takeNewName_36 rfl rfl ?_
      refine gf_X4_42 (pc' := 40) dX4_takeNewName_37 rfl (by first | rfl | assumption) rfl ?_
      rw [n1]
      refine gj_bipush (pc' := 42) dX4_takeNewName_40 rfl (by decide) ?_
      refine gj_icmp_lt (pc' := 45) (tgt := 51) dX4_takeNewName_42 (by decide) rfl (by omega) (fun c42 => ?_) (fun c42 => ?_)
      · refine gj_aload_n (pc' := 52) dX4_takeNewName_51 rfl rfl ?_
        refine gf_X4_22 (pc' := 55) dX4_takeNewName_52 rfl (by first | rfl | assumption) rfl ?_
        refine gj_aload_n (pc' := 56) dX4_takeNewName_55 rfl rfl ?_
        refine gf_X4_42 (pc' := 59) dX4_takeNewName_56 rfl (by first | rfl | assumption) rfl ?_
        rw [n1]
        refine gj_aload_n (pc' := 60) dX4_takeNewName_59 rfl rfl ?_
        refine gf_X4_16 (pc' := 63) dX4_takeNewName_60 rfl (by first | rfl | assumption) rfl ?_
        refine gf_X4_217 (pc' := 66) dX4_takeNewName_63 rfl (by first | rfl | assumption) rfl ?_
        rw [hT hs1]
        refine gj_last (pc' := 67) (j := m) (by first | rfl | assumption) (by omega) (by omega) (by decide) dX4_takeNewName_66 rfl ?_
        refine gj_aload_n (pc' := 68) dX4_takeNewName_67 rfl rfl ?_
        refine gf_X4_26 (pc' := 71) dX4_takeNewName_68 rfl (by first | rfl | assumption) rfl ?_
        refine gj_aload_n (pc' := 72) dX4_takeNewName_71 rfl rfl ?_
        refine gf_X4_42 (pc' := 75) dX4_takeNewName_72 rfl (by first | rfl | assumption) rfl ?_
        rw [show (gul h 4 m _).1 1 3 = (m : Int) from n1]
        refine gj_iload_n (pc' := 76) dX4_takeNewName_75 rfl rfl ?_
        refine gj_iast (pc' := 77) (j := m) (by first | rfl | assumption) (by omega) (by omega) (by decide) dX4_takeNewName_76 rfl ?_
        refine gj_aload_n (pc' := 78) dX4_takeNewName_77 rfl rfl ?_
        refine gj_dup (pc' := 79) dX4_takeNewName_78 rfl rfl ?_
        refine gf_X4_42 (pc' := 82) dX4_takeNewName_79 rfl (by first | rfl | assumption) rfl ?_
        rw [show (gui (gul h 4 m _) 5 m _).1 1 3 = (m : Int) from n1]
        refine gj_iconst (pc' := 83) dX4_takeNewName_82 rfl ?_
        refine gj_iadd (pc' := 84) dX4_takeNewName_83 rfl ?_
        refine gp_X4_42 (pc' := 87) dX4_takeNewName_84 rfl (by first | rfl | assumption) rfl ?_
        refine gj_aload_n (pc' := 88) dX4_takeNewName_87 rfl rfl ?_
        refine gf_X4_16 (pc' := 91) dX4_takeNewName_88 rfl (by first | rfl | assumption) rfl ?_
        refine gc_X4_63 (pc' := 94) dX4_takeNewName_91 rfl (s_stepT (hC.to (by rw [gui_n (by decide), gui_n (by decide)]; rfl) (by rw [gui_n (by decide), gui_n (by decide)]; rfl) (show u2 h.2.1 4 m (tWd B e p : Int) 2 = h.2.1 2 from u2_n (by decide)) (by rw [gui_s, up1_n (by decide), gui_n (by decide)]; rfl))) rfl (by first | rfl | assumption) (by decide) rfl (Nat.le_of_ble_eq_true rfl) (fun v9 h9 q9 => ?_)
        obtain ⟨rfl, u1, w2⟩ := q9
        obtain ⟨hz9, rfl⟩ : ∃ x, x = h9 := ⟨h9, rfl⟩
        show gJ _ _ _ _ _ _ _ [] _ _
        refine gj_iconst (pc' := 95) dX4_takeNewName_94 rfl ?_
        refine gj_zret rfl (by first | rfl | exact gnZ _ | assumption) dX4_takeNewName_95 ?_
        have hfd : fd T (tWd B e p) = -2 := by omega
        rw [if_neg (by omega)] at hr
        rw [hr]
        have hU2 := adN_U hU hs htl.1 htl.2.2 h0 hfd
        have hl4 : h.2.1 4 = h.2.1 4 := rfl
        have e4 : ∀ i, hz9.2.1 4 i = if i = m then (tWd B e p : Int) else h.2.1 4 i := fun i => by
          rw [(u1.2.1 4 (by decide)).2]
          show u2 h.2.1 4 m (tWd B e p : Int) 4 i = _
          rw [u2_s]
          rfl
        have e5 : ∀ i, hz9.1 5 i = if i = m then hs2 else h.1 5 i := fun i => by
          rw [(u1.2.1 5 (by decide)).1, gui_n (by decide), gui_s]
          rfl
        have e13 : ∀ k, hz9.1 1 k = if k = 3 then (m : Int) + 1 else h.1 1 k := fun k => by
          rw [(u1.2.1 1 (by decide)).1, gui_s, gui_n (by decide)]
          rfl
        refine ⟨rfl, ⟨u1.1, fun o o1 o2 o5 => ?_, fun o o2 o4 => ?_, fun k hk => ?_, fun k hk => ?_⟩, fun _ => ⟨w2, ?_, hU2, m + 1, fun i => if i = m then s else sl i, ?_, fun i hi => ?_, fun n hn hne => ?_, fun i j hi hj he => ?_⟩, fun z => absurd rfl z⟩
        · rw [(u1.2.1 o o2).1, gui_n o1, gui_n o5]; rfl
        · rw [(u1.2.1 o o2).2]
          exact u2_n o4
        · rw [e13, if_neg (by omega)]
        · rw [u1.2.2 k hk, gui_n (by decide), gui_n (by decide)]; rfl
        · rw [e13, if_neg (by decide)]
        · rw [e13, if_pos rfl]; omega
        · show (if i = m then s else sl i) < 16 ∧ hz9.2.1 4 i = ((nmC (tkN B e T s p) (if i = m then s else sl i) : Nat) : Int) ∧ tkN B e T s p (75 + (if i = m then s else sl i)) ≠ 0 ∧ hz9.1 5 i = (if (if i = m then s else sl i) < 6 then (((if i = m then s else sl i) : Nat) : Int) else -1)
          rw [e4, e5]
          by_cases q : i = m
          · simp only [if_pos q]
            refine ⟨hs, ?_, ?_, hsv⟩
            · unfold tkN
              rw [adN_C hU hs htl.1 hs, if_pos rfl]
              rfl
            · unfold tkN
              rw [adN_s]
              omega
          · simp only [if_neg q]
            obtain ⟨a1, a2, a3, a4⟩ := n2 i (by omega)
            have hns : sl i ≠ s := fun z => by rw [z] at a3; exact a3 h0
            refine ⟨a1, ?_, ?_, a4⟩
            · unfold tkN
              rw [adN_C hU hs htl.1 a1, if_neg hns]
              exact a2
            · unfold tkN
              rw [adN_sz a1 hns]
              exact a3
        · by_cases q : n = s
          · exact ⟨m, by omega, by show (if m = m then s else sl m) = n; rw [if_pos rfl, q]⟩
          · unfold tkN at hne
            rw [adN_sz hn q] at hne
            obtain ⟨i, i1, i2⟩ := n3 n hn hne
            exact ⟨i, by omega, by show (if i = m then s else sl i) = n; rw [if_neg (by omega), i2]⟩
        · have he2 : (if i = m then s else sl i) = (if j = m then s else sl j) := he
          by_cases q : i = m
          · by_cases q2 : j = m
            · omega
            · rw [if_pos q, if_neg q2] at he2
              have a3 := (n2 j (by omega)).2.2.1
              rw [← he2] at a3
              exact absurd h0 a3
          · by_cases q2 : j = m
            · rw [if_neg q, if_pos q2] at he2
              have a3 := (n2 i (by omega)).2.2.1
              rw [he2] at a3
              exact absurd h0 a3
            · rw [if_neg q, if_neg q2] at he2
              exact n4 i j (by omega) (by omega) he2
      · exfalso; omega
    · refine gj_aload_n (pc' := 31) dX4_takeNewName_30 rfl rfl ?_
      refine gj_iconst (pc' := 32) dX4_takeNewName_31 rfl ?_
      refine gc_X4_66 (pc' := 35) dX4_takeNewName_32 rfl (s_fail (k := 3) hC.2.2.1) rfl (by first | rfl | assumption) (by decide) rfl (Nat.le_of_ble_eq_true rfl) (fun v9 h9 q9 => ?_)
      obtain ⟨rfl, q1, q2, q3⟩ := q9
      show gJ _ _ _ _ _ _ _ [.int (zI 0)] _ _
      refine gj_zret rfl (by first | rfl | exact gnZ _ | assumption) dX4_takeNewName_35 ?_
      rw [if_pos (by omega)] at hr
      rw [hr]
      exact ⟨rfl, q1.rn, fun z => absurd (show (3 : Nat) = 0 from z) (by decide), fun _ => ⟨q2, q3⟩⟩
  · refine gj_aload_n (pc' := 11) dX4_takeNewName_10 rfl rfl ?_
    refine gj_iconst (pc' := 12) dX4_takeNewName_11 rfl ?_
    refine gc_X4_66 (pc' := 15) dX4_takeNewName_12 rfl (s_fail (k := 1) hC.2.2.1) rfl (by first | rfl | assumption) (by decide) rfl (Nat.le_of_ble_eq_true rfl) (fun v9 h9 q9 => ?_)
    obtain ⟨rfl, q1, q2, q3⟩ := q9
    show gJ _ _ _ _ _ _ _ [.int (zI 0)] _ _
    refine gj_zret rfl (by first | rfl | exact gnZ _ | assumption) dX4_takeNewName_15 ?_
    rw [if_pos c7] at hr
    rw [hr]
    exact ⟨rfl, q1.rn, fun z => absurd (show (1 : Nat) = 0 from z) (by decide), fun _ => ⟨q2, q3⟩⟩
