/-! strays: the model goes through the candidates -/
def SF (h : gH) (T : Nat → Nat) (w : Int) (c : Nat) : Prop := h.1 142 31 = w ∧ h.1 142 30 = (cnt T c : Int) ∧ (∀ s, s < T 5 → ∀ k, k < 6 → h.1 154 (6 * s + k) = ((sN (fun x => (okF T x && (gDg (T 5) x s == k)).toNat) c : Nat) : Int)) ∧ (∀ k, k < T 3 → ∀ d, d < 41 → ∀ q, q < 4 → h.1 155 (4 * (41 * k + d) + q) = ((sN (fun x => (okF T x && (stN T x k d == q)).toNat) c : Nat) : Int)) ∧ (∀ x, x < c → okF T x = true → (cnt T x : Int) = w → ∀ s, s < T 5 → h.1 153 s = (gDg (T 5) x s : Int))
theorem SF.to {h h' : gH} {T : Nat → Nat} {w : Int} {c : Nat} (a : SF h T w c) (e1 : h'.1 142 31 = h.1 142 31) (e0 : h'.1 142 30 = h.1 142 30) (e3 : h'.1 153 = h.1 153) (e4 : h'.1 154 = h.1 154) (e5 : h'.1 155 = h.1 155) : SF h' T w c := by
  obtain ⟨a0, a1, a2, a3, a4⟩ := a
  refine ⟨e1.trans a0, e0.trans a1, fun s hs k hk => ?_, fun k hk d hd q hq => ?_, fun x hx ho hw s hs => ?_⟩
  · rw [e4]; exact a2 s hs k hk
  · rw [e5]; exact a3 k hk d hd q hq
  · rw [e3]; exact a4 x hx ho hw s hs
theorem sN_flat {f : Nat → Nat} {c : Nat} : ∀ k, (∀ x, c ≤ x → x < c + k → f x = 0) → sN f (c + k) = sN f c
  | 0, _ => rfl
  | k + 1, h => by
    show sN f (c + k) + f (c + k) = sN f c
    rw [sN_flat k (fun x x1 x2 => h x x1 (by omega)), h (c + k) (by omega) (by omega)]
    rfl
theorem SF.skip {h : gH} {T : Nat → Nat} {w : Int} {c c' : Nat} (a : SF h T w c) (hc : c ≤ c') (hn : ∀ x, c ≤ x → x < c' → okF T x = false) : SF h T w c' := by
  obtain ⟨k, rfl⟩ : ∃ k, c' = c + k := ⟨c' - c, by omega⟩
  have fl : ∀ P : Nat → Bool, sN (fun x => (okF T x && P x).toNat) (c + k) = sN (fun x => (okF T x && P x).toNat) c := fun P => sN_flat k (fun x x1 x2 => by
    show (okF T x && P x).toNat = 0
    rw [hn x x1 x2]
    rfl)
  have fl2 : cnt T (c + k) = cnt T c := sN_flat k (fun x x1 x2 => by
    show (okF T x).toNat = 0
    rw [hn x x1 x2]
    rfl)
  obtain ⟨a0, a1, a2, a3, a4⟩ := a
  refine ⟨a0, by rw [fl2]; exact a1, fun s hs k hk => ?_, fun k hk d hd q hq => ?_, fun x hx ho hw s hs => ?_⟩
  · rw [fl]; exact a2 s hs k hk
  · rw [fl]; exact a3 k hk d hd q hq
  · rcases Nat.lt_or_ge x c with z | z
    · exact a4 x z ho hw s hs
    · rw [hn x z hx] at ho; cases ho
theorem pow8 (n : Nat) : 2 ^ (3 * (n + 1)) = 8 * 2 ^ (3 * n) := by
  rw [show 3 * (n + 1) = 3 * n + 3 by omega, Nat.pow_add, Nat.mul_comm]
theorem seg_no {T : Nat → Nat} {s x : Nat} (hs : s < T 5) (hb : T 3 ≤ x / 2 ^ (3 * (T 5 - 1 - s)) % 8 ∨ x / 2 ^ (3 * (T 5 - 1 - s)) % 8 = T (54 + 2 * s)) : okF T x = false := by
  unfold okF
  cases q : okR T x with
  | false => rfl
  | true =>
    exfalso
    have := okR_t.mp q s hs
    unfold gDg at this
    omega
theorem gDg_pre {n s x i : Nat} (hs : s ≤ n) (hi : i < s) : gDg n x i = gDg s (x / 2 ^ (3 * (n - s))) i := by
  unfold gDg
  rw [Nat.div_div_eq_div_mul, ← Nat.pow_add, show 3 * (n - s) + 3 * (s - 1 - i) = 3 * (n - 1 - i) by omega]
theorem m_strayIsOn {h : gH} {T S : Nat → Nat} {c s k d : Nat} (hM : MI h T S) (hh : h.1 152 s = (gDg (T 5) c s : Int)) (hs : s < T 5) (hk : k < T 3) (hd : d ≤ 2000) : gSp 3 yX11_strayIsOn cX11_strayIsOn 4 (some .boolean) [.ref 142, .int (zI (s : Int)), .int (zI (k : Int)), .int (zI (d : Int))] h (gR (.int (zI (bI (stO T c k d s)))) h) := by
  obtain ⟨hA, hT, hS⟩ := id hM
  have h3 := hT.2.2.2.1
  have h5 : T 5 ≤ 3 := hT.2.2.2.2.2.1
  have h10 := hT.2.2.2.2.2.2.2.2.2.1 s hs
  have hst := stT_le hT hs hk
  have hg := gDg_lt (T 5) c s
  have hse : stT T s k = T (55 + 2 * s) + tAp T (T (54 + 2 * s)) k := rfl
  refine gSp_of (by decide +kernel) (Nat.le_of_ble_eq_true rfl) ?_
  show gJ RX11 cX11_strayIsOn 4 (some .boolean) _ 0 [some (.ref 142), some (.int (zI (s : Int))), some (.int (zI (k : Int))), some (.int (zI (d : Int)))] [] _ _
  refine gj_aload_n (pc' := 1) dX11_strayIsOn_0 rfl rfl ?_
  refine gf_X11_41 (pc' := 4) dX11_strayIsOn_1 rfl (by first | rfl | assumption) rfl ?_
  refine gj_iload_n (pc' := 5) dX11_strayIsOn_4 rfl rfl ?_
  refine gj_iald (pc' := 6) (j := s) (by first | rfl | assumption) (by omega) (by omega) (by decide) dX11_strayIsOn_5 rfl ?_
  rw [hh]
  refine gj_iload_n (pc' := 7) dX11_strayIsOn_6 rfl rfl ?_
  refine gj_icmp_ne (pc' := 10) (tgt := 48) dX11_strayIsOn_7 (by decide) rfl (by omega) (fun c7 => ?_) (fun c7 => ?_)
  · refine gj_iconst (pc' := 49) dX11_strayIsOn_48 rfl ?_
    refine gj_zret rfl (by first | rfl | exact gnZ _ | assumption) dX11_strayIsOn_49 ?_
    by_cases e : stO T c k d s = true
    · have e2 := e
      unfold stO at e2
      rw [Bool.and_eq_true, beq_iff_eq, decide_eq_true_eq] at e2
      first
      | (exfalso; omega)
      | exact gR_t e
    · have e1 : stO T c k d s = false := by simpa using e
      have e2 := e1
      unfold stO at e2
      rw [Bool.and_eq_false_iff, beq_eq_false_iff_ne, decide_eq_false_iff_not] at e2
      first
      | (exfalso; omega)
      | exact gR_f e1
  · refine gj_iload_n (pc' := 11) dX11_strayIsOn_10 rfl rfl ?_
    refine gj_aload_n (pc' := 12) dX11_strayIsOn_11 rfl rfl ?_
    refine gf_X11_20 (pc' := 15) dX11_strayIsOn_12 rfl (by first | rfl | assumption) rfl ?_
    refine gj_bipush (pc' := 17) dX11_strayIsOn_15 rfl (by decide) ?_
    refine gj_iconst (pc' := 18) dX11_strayIsOn_17 rfl ?_
    refine gj_iload_n (pc' := 19) dX11_strayIsOn_18 rfl rfl ?_
    refine gj_imul (pc' := 20) dX11_strayIsOn_19 rfl ?_
    refine gj_iadd (pc' := 21) dX11_strayIsOn_20 rfl ?_
    refine gj_iconst (pc' := 22) dX11_strayIsOn_21 rfl ?_
    refine gj_iadd (pc' := 23) dX11_strayIsOn_22 rfl ?_
    refine gj_iald (pc' := 24) (j := 55 + 2 * s) (by first | rfl | assumption) (by omega) (by omega) (by decide) dX11_strayIsOn_23 rfl ?_
    rw [hA.1 _ (by omega)]
    refine gj_aload_n (pc' := 25) dX11_strayIsOn_24 rfl rfl ?_
    refine gj_aload_n (pc' := 26) dX11_strayIsOn_25 rfl rfl ?_
    refine gf_X11_20 (pc' := 29) dX11_strayIsOn_26 rfl (by first | rfl | assumption) rfl ?_
    refine gj_bipush (pc' := 31) dX11_strayIsOn_29 rfl (by decide) ?_
    refine gj_iconst (pc' := 32) dX11_strayIsOn_31 rfl ?_
    refine gj_iload_n (pc' := 33) dX11_strayIsOn_32 rfl rfl ?_
    refine gj_imul (pc' := 34) dX11_strayIsOn_33 rfl ?_
    refine gj_iadd (pc' := 35) dX11_strayIsOn_34 rfl ?_
    refine gj_iald (pc' := 36) (j := 54 + 2 * s) (by first | rfl | assumption) (by omega) (by omega) (by decide) dX11_strayIsOn_35 rfl ?_
    rw [hA.1 _ (by omega)]
    refine gj_iload_n (pc' := 37) dX11_strayIsOn_36 rfl rfl ?_
    refine gr_X11_249 (pc' := 40) dX11_strayIsOn_37 rfl (m_daysApart hM h10.1 hk) rfl (by first | rfl | assumption) (by decide) rfl (Nat.le_of_ble_eq_true rfl) ?_
    refine gj_iadd (pc' := 41) dX11_strayIsOn_40 rfl ?_
    refine gj_icmp_lt (pc' := 44) (tgt := 48) dX11_strayIsOn_41 (by decide) rfl (by omega) (fun c41 => ?_) (fun c41 => ?_)
    · refine gj_iconst (pc' := 49) dX11_strayIsOn_48 rfl ?_
      refine gj_zret rfl (by first | rfl | exact gnZ _ | assumption) dX11_strayIsOn_49 ?_
      by_cases e : stO T c k d s = true
      · have e2 := e
        unfold stO at e2
        rw [Bool.and_eq_true, beq_iff_eq, decide_eq_true_eq] at e2
        first
        | (exfalso; omega)
        | exact gR_t e
      · have e1 : stO T c k d s = false := by simpa using e
        have e2 := e1
        unfold stO at e2
        rw [Bool.and_eq_false_iff, beq_eq_false_iff_ne, decide_eq_false_iff_not] at e2
        first
        | (exfalso; omega)
        | exact gR_f e1
    · refine gj_iconst (pc' := 45) dX11_strayIsOn_44 rfl ?_
      refine gj_goto (pc' := 49) dX11_strayIsOn_45 (by decide) ?_
      refine gj_zret rfl (by first | rfl | exact gnZ _ | assumption) dX11_strayIsOn_49 ?_
      by_cases e : stO T c k d s = true
      · have e2 := e
        unfold stO at e2
        rw [Bool.and_eq_true, beq_iff_eq, decide_eq_true_eq] at e2
        first
        | (exfalso; omega)
        | exact gR_t e
      · have e1 : stO T c k d s = false := by simpa using e
        have e2 := e1
        unfold stO at e2
        rw [Bool.and_eq_false_iff, beq_eq_false_iff_ne, decide_eq_false_iff_not] at e2
        first
        | (exfalso; omega)
        | exact gR_f e1
theorem m_straysOn {h : gH} {T S : Nat → Nat} {c k d : Nat} (hM : MI h T S) (hh : ∀ s, s < T 5 → h.1 152 s = (gDg (T 5) c s : Int)) (hk : k < T 3) (hd : d ≤ 2000) : gSp 4 yX11_straysOn cX11_straysOn 5 (some .int) [.ref 142, .int (zI (k : Int)), .int (zI (d : Int))] h (gR (.int (zI (stN T c k d : Nat))) h) := by
  obtain ⟨hA, hT, hS⟩ := id hM
  have h5 : T 5 ≤ 3 := hT.2.2.2.2.2.1
  refine gSp_of (by decide +kernel) (Nat.le_of_ble_eq_true rfl) ?_
  show gJ RX11 cX11_straysOn 5 (some .int) _ 0 [some (.ref 142), some (.int (zI (k : Int))), some (.int (zI (d : Int))), none, none] [] _ _
  refine gj_iconst (pc' := 1) dX11_straysOn_0 rfl ?_
  refine gj_istore_n (pc' := 2) dX11_straysOn_1 rfl (by decide) ?_
  refine gj_iconst (pc' := 3) dX11_straysOn_2 rfl ?_
  refine gj_istore (pc' := 5) dX11_straysOn_3 rfl (by decide) ?_
  refine gJ_wk (gJ_for (L := fun s => [some (.ref 142), some (.int (zI (k : Int))), some (.int (zI (d : Int))), some (.int (zI (sN (fun s => (stO T c k d s).toNat) s : Nat))), some (.int (zI (s : Int)))]) (T 5) (fun s hb_s ih_s => ?_) (0) (Nat.zero_le _)) ?_
  · have es : sN (fun s => (stO T c k d s).toNat) (s + 1) = sN (fun s => (stO T c k d s).toNat) s + (stO T c k d s).toNat := rfl
    have bt1 : true.toNat = 1 := rfl
    have bt0 : false.toNat = 0 := rfl
    refine gj_iload (pc' := 7) dX11_straysOn_5 rfl rfl ?_
    refine gj_aload_n (pc' := 8) dX11_straysOn_7 rfl rfl ?_
    refine gf_X11_20 (pc' := 11) dX11_straysOn_8 rfl (by first | rfl | assumption) rfl ?_
    refine gj_iconst (pc' := 12) dX11_straysOn_11 rfl ?_
    refine gj_iald (pc' := 13) (j := 5) (by first | rfl | assumption) (by omega) (by omega) (by decide) dX11_straysOn_12 rfl ?_
    rw [hA.1 5 (by decide)]
    refine gj_icmp_ge (pc' := 16) (tgt := 41) dX11_straysOn_13 (by decide) rfl (by omega) (fun c13 => ?_) (fun c13 => ?_)
    · refine gj_iload_n (pc' := 42) dX11_straysOn_41 rfl rfl ?_
      refine gj_iret rfl dX11_straysOn_42 ?_
      exact gR_i (by rw [show s = T 5 by omega]; rfl)
    · refine gj_iload_n (pc' := 17) dX11_straysOn_16 rfl rfl ?_
      refine gj_aload_n (pc' := 18) dX11_straysOn_17 rfl rfl ?_
      refine gj_iload (pc' := 20) dX11_straysOn_18 rfl rfl ?_
      refine gj_iload_n (pc' := 21) dX11_straysOn_20 rfl rfl ?_
      refine gj_iload_n (pc' := 22) dX11_straysOn_21 rfl rfl ?_
      refine gr_X11_340 (pc' := 25) dX11_straysOn_22 rfl (m_strayIsOn (c := c) hM (hh s (by omega)) (by omega) hk hd) rfl (by first | rfl | assumption) (by decide) rfl (Nat.le_of_ble_eq_true rfl) ?_
      first | refine gj_ifB_eq (pc' := 28) (tgt := 32) dX11_straysOn_25 (by decide) rfl (fun c25 => ?_) (fun c25 => ?_) | refine gj_if_eq (pc' := 28) (tgt := 32) dX11_straysOn_25 (by decide) rfl (by omega) (fun c25 => ?_) (fun c25 => ?_)
      · refine gj_iconst (pc' := 33) dX11_straysOn_32 rfl ?_
        refine gj_iadd (pc' := 34) dX11_straysOn_33 rfl ?_
        refine gj_istore_n (pc' := 35) dX11_straysOn_34 rfl (by decide) ?_
        refine gj_iinc (pc' := 38) dX11_straysOn_35 rfl rfl (by decide) ?_
        refine gj_goto (pc' := 5) dX11_straysOn_38 (by decide) ?_
        refine gJ_wk (ih_s (by omega)) ?_
        repeat' (first | exact True.intro | with_reducible exact rfl | refine And.intro ?_ ?_ | refine vI ?_ | refine vL ?_)
        all_goals first
        | omega
        | (rw [es, c25]; omega)
      · refine gj_iconst (pc' := 29) dX11_straysOn_28 rfl ?_
        refine gj_goto (pc' := 33) dX11_straysOn_29 (by decide) ?_
        refine gj_iadd (pc' := 34) dX11_straysOn_33 rfl ?_
        refine gj_istore_n (pc' := 35) dX11_straysOn_34 rfl (by decide) ?_
        refine gj_iinc (pc' := 38) dX11_straysOn_35 rfl rfl (by decide) ?_
        refine gj_goto (pc' := 5) dX11_straysOn_38 (by decide) ?_
        refine gJ_wk (ih_s (by omega)) ?_
        repeat' (first | exact True.intro | with_reducible exact rfl | refine And.intro ?_ ?_ | refine vI ?_ | refine vL ?_)
        all_goals first
        | omega
        | (rw [es, c25]; omega)
  · repeat' (first | exact True.intro | with_reducible exact rfl | refine And.intro ?_ ?_ | refine vI ?_ | refine vL ?_)
    all_goals first | rfl | omega
/-- a row that fits is counted -/
theorem m_try179 {g : gH} {T S : Nat → Nat} {p d : Nat} {Q : Option Value → gH → Prop} (hM : MI g T S) (hdg : ∀ s, s < T 5 → g.1 152 s = (gDg (T 5) p s : Int)) (ho : okR T p = true) (hd9 : 4 < d) (kk : ∀ h' : gH, h'.2 = g.2 → (∀ a, a ≠ 142 → a ≠ 154 → a ≠ 155 → h'.1 a = g.1 a) → (∀ k, k ≠ 30 → h'.1 142 k = g.1 142 k) → h'.1 142 30 = g.1 142 30 + 1 → (∀ s, s < T 5 → ∀ k, k < 6 → h'.1 154 (6 * s + k) = g.1 154 (6 * s + k) + (if gDg (T 5) p s = k then 1 else 0)) → (∀ k, k < T 3 → ∀ e, e < 41 → ∀ q, q < 4 → h'.1 155 (4 * (41 * k + e) + q) = g.1 155 (4 * (41 * k + e) + q) + (if stN T p k e = q then 1 else 0)) → Q none h') : gJ RX11 cX11_tryHomes 4 none d 179 [some (.ref 142), none, none, none] [] g Q := by
  obtain ⟨hA, hT, hS⟩ := id hM
  have h3 := hT.2.2.2.1
  have h5 : T 5 ≤ 3 := hT.2.2.2.2.2.1
  refine gj_aload_n (pc' := 180) dX11_tryHomes_179 rfl rfl ?_
  refine gj_dup (pc' := 181) dX11_tryHomes_180 rfl rfl ?_
  refine gf_X11_352 (pc' := 184) dX11_tryHomes_181 rfl (by first | rfl | assumption) rfl ?_
  refine gj_iconst (pc' := 185) dX11_tryHomes_184 rfl ?_
  refine gj_iadd (pc' := 186) dX11_tryHomes_185 rfl ?_
  refine gp_X11_352 (pc' := 189) dX11_tryHomes_186 rfl (by first | rfl | assumption) rfl ?_
  refine gj_iconst (pc' := 190) dX11_tryHomes_189 rfl ?_
  refine gj_istore_n (pc' := 191) dX11_tryHomes_190 rfl (by decide) ?_
  refine gJ_wk (gJ_fH0 (L := fun s  => [some (.ref 142), none, some (.int (zI (s : Int))), none]) (I := fun s  hp => hp.2 = g.2 ∧ (∀ a, a ≠ 142 → a ≠ 154 → hp.1 a = g.1 a) ∧ (∀ k, k ≠ 30 → hp.1 142 k = g.1 142 k) ∧ hp.1 142 30 = g.1 142 30 + 1 ∧ (∀ i, i < T 5 → ∀ k, k < 6 → hp.1 154 (6 * i + k) = g.1 154 (6 * i + k) + (if i < s ∧ gDg (T 5) p i = k then 1 else 0))) (T 5) (fun s  hp hb_s iv_s ih_s => ?step_1) (0) (Nat.zero_le _)  _ ?iv0_1) ?ll0_1
  case ll0_1 =>
    repeat' (first | exact True.intro | with_reducible exact rfl | refine And.intro ?_ ?_ | refine vI ?_ | refine vL ?_)
    all_goals first | rfl | omega
  case iv0_1 =>
    exact ⟨rfl, fun a a1 _ => gui_n a1, fun k hk => by rw [gui_s, up1_n hk], by rw [gui_s, up1_s], fun i _ k _ => by rw [gui_n (by decide), if_neg (fun z => absurd z.1 (Nat.not_lt_zero i))]; omega⟩
  obtain ⟨i1, i2, i3, i4, i5⟩ := iv_s
  refine gj_iload_n (pc' := 192) dX11_tryHomes_191 rfl rfl ?_
  refine gj_aload_n (pc' := 193) dX11_tryHomes_192 rfl rfl ?_
  refine gf_X11_20 (pc' := 196) dX11_tryHomes_193 rfl (by first | rfl | assumption) rfl ?_
  refine gj_iconst (pc' := 197) dX11_tryHomes_196 rfl ?_
  refine gj_iald (pc' := 198) (j := 5) (by first | rfl | assumption) (by omega) (by omega) (by decide) dX11_tryHomes_197 rfl ?_
  rw [i2 145 (by decide) (by decide), hA.1 5 (by decide)]
  refine gj_icmp_ge (pc' := 201) (tgt := 227) dX11_tryHomes_198 (by decide) rfl (by omega) (fun c198 => ?_) (fun c198 => ?_)
  · refine gj_iconst (pc' := 228) dX11_tryHomes_227 rfl ?_
    refine gj_istore_n (pc' := 229) dX11_tryHomes_228 rfl (by decide) ?_
    refine gJ_wk (gJ_fH0 (L := fun k  => [some (.ref 142), none, some (.int (zI (k : Int))), none]) (I := fun k  hp => hp.2 = g.2 ∧ (∀ a, a ≠ 142 → a ≠ 154 → a ≠ 155 → hp.1 a = g.1 a) ∧ (∀ k, k ≠ 30 → hp.1 142 k = g.1 142 k) ∧ hp.1 142 30 = g.1 142 30 + 1 ∧ (∀ i, i < T 5 → ∀ k, k < 6 → hp.1 154 (6 * i + k) = g.1 154 (6 * i + k) + (if gDg (T 5) p i = k then 1 else 0)) ∧ (∀ i, i < T 3 → ∀ e, e < 41 → ∀ q, q < 4 → hp.1 155 (4 * (41 * i + e) + q) = g.1 155 (4 * (41 * i + e) + q) + (if i < k ∧ stN T p i e = q then 1 else 0))) (T 3) (fun k  hp hb_k iv_k ih_k => ?step_2) (0) (Nat.zero_le _)  _ ?iv0_2) ?ll0_2
    case ll0_2 =>
      repeat' (first | exact True.intro | with_reducible exact rfl | refine And.intro ?_ ?_ | refine vI ?_ | refine vL ?_)
      all_goals first | rfl | omega
    case iv0_2 =>
      refine ⟨i1, fun a a1 a2 _ => i2 a a1 a2, i3, i4, fun i hi k hk => ?_, fun i _ e _ q _ => by rw [i2 155 (by decide) (by decide), if_neg (fun z => absurd z.1 (Nat.not_lt_zero i))]; omega⟩
      rw [i5 i hi k hk]
      by_cases y : gDg (T 5) p i = k
      · rw [if_pos y, if_pos ⟨by omega, y⟩]
      · rw [if_neg y, if_neg (fun x => y x.2)]
    obtain ⟨j1, j2, j3, j4, j5, j6⟩ := iv_k
    refine gj_iload_n (pc' := 230) dX11_tryHomes_229 rfl rfl ?_
    refine gj_aload_n (pc' := 231) dX11_tryHomes_230 rfl rfl ?_
    refine gf_X11_20 (pc' := 234) dX11_tryHomes_231 rfl (by first | rfl | assumption) rfl ?_
    refine gj_iconst (pc' := 235) dX11_tryHomes_234 rfl ?_
    refine gj_iald (pc' := 236) (j := 3) (by first | rfl | assumption) (by omega) (by omega) (by decide) dX11_tryHomes_235 rfl ?_
    rw [j2 145 (by decide) (by decide) (by decide), hA.1 3 (by decide)]
    refine gj_icmp_ge (pc' := 239) (tgt := 283) dX11_tryHomes_236 (by decide) rfl (by omega) (fun c236 => ?_) (fun c236 => ?_)
    · refine gj_vret rfl dX11_tryHomes_283 ?_
      refine kk _ j1 j2 j3 j4 j5 (fun i hi f hf q hq => ?_)
      rw [j6 i hi f hf q hq]
      by_cases y : stN T p i f = q
      · rw [if_pos y, if_pos ⟨by omega, y⟩]
      · rw [if_neg y, if_neg (fun x => y x.2)]
    · refine gj_iconst (pc' := 240) dX11_tryHomes_239 rfl ?_
      refine gj_istore_n (pc' := 241) dX11_tryHomes_240 rfl (by decide) ?_
      refine gJ_wk (gJ_fH0 (L := fun e  => [some (.ref 142), none, some (.int (zI (k : Int))), some (.int (zI (e : Int)))]) (I := fun e  hp => k < T 3 ∧ hp.2 = g.2 ∧ (∀ a, a ≠ 142 → a ≠ 154 → a ≠ 155 → hp.1 a = g.1 a) ∧ (∀ k, k ≠ 30 → hp.1 142 k = g.1 142 k) ∧ hp.1 142 30 = g.1 142 30 + 1 ∧ (∀ i, i < T 5 → ∀ k, k < 6 → hp.1 154 (6 * i + k) = g.1 154 (6 * i + k) + (if gDg (T 5) p i = k then 1 else 0)) ∧ (∀ i, i < T 3 → ∀ f, f < 41 → ∀ q, q < 4 → hp.1 155 (4 * (41 * i + f) + q) = g.1 155 (4 * (41 * i + f) + q) + (if (i < k ∨ (i = k ∧ f < e)) ∧ stN T p i f = q then 1 else 0))) (41) (fun e  hp hb_e iv_e ih_e => ?step_3) (0) (Nat.zero_le _)  _ ?iv0_3) ?ll0_3
      case ll0_3 =>
        repeat' (first | exact True.intro | with_reducible exact rfl | refine And.intro ?_ ?_ | refine vI ?_ | refine vL ?_)
        all_goals first | rfl | omega
      case iv0_3 =>
        refine ⟨by omega, j1, j2, j3, j4, j5, fun i hi f hf q hq => ?_⟩
        rw [j6 i hi f hf q hq]
        by_cases y : i < k ∧ stN T p i f = q
        · rw [if_pos y, if_pos ⟨Or.inl y.1, y.2⟩]
        · rw [if_neg y, if_neg (fun x => y ⟨by omega, x.2⟩)]
      obtain ⟨k0, k1, k2, k3, k4, k5, k6⟩ := iv_e
      have hM2 : MI hp T S := hM.nt (k2 145 (by decide) (by decide) (by decide)) (k2 147 (by decide) (by decide) (by decide))
      have hst := stN_le hT p k e
      refine gj_iload_n (pc' := 242) dX11_tryHomes_241 rfl rfl ?_
      refine gj_bipush (pc' := 244) dX11_tryHomes_242 rfl (by decide) ?_
      refine gj_icmp_ge (pc' := 247) (tgt := 277) dX11_tryHomes_244 (by decide) rfl (by omega) (fun c244 => ?_) (fun c244 => ?_)
      · refine gj_iinc (pc' := 280) dX11_tryHomes_277 rfl rfl (by decide) ?_
        refine gj_goto (pc' := 229) dX11_tryHomes_280 (by decide) ?_
        refine gJ_wk (ih_k  _ (by omega) ?iv_4) ?ll_4
        case ll_4 =>
          repeat' (first | exact True.intro | with_reducible exact rfl | refine And.intro ?_ ?_ | refine vI ?_ | refine vL ?_)
          all_goals omega
        refine ⟨k1, k2, k3, k4, k5, fun i hi f hf q hq => ?_⟩
        rw [k6 i hi f hf q hq]
        by_cases y : i < k + 1 ∧ stN T p i f = q
        · rw [if_pos y, if_pos ⟨by omega, y.2⟩]
        · rw [if_neg y, if_neg (fun x => y ⟨by omega, x.2⟩)]
      · refine gj_aload_n (pc' := 248) dX11_tryHomes_247 rfl rfl ?_
        refine gf_X11_50 (pc' := 251) dX11_tryHomes_248 rfl (by first | rfl | assumption) rfl ?_
        refine gj_iconst (pc' := 252) dX11_tryHomes_251 rfl ?_
        refine gj_bipush (pc' := 254) dX11_tryHomes_252 rfl (by decide) ?_
        refine gj_iload_n (pc' := 255) dX11_tryHomes_254 rfl rfl ?_
        refine gj_imul (pc' := 256) dX11_tryHomes_255 rfl ?_
        refine gj_iload_n (pc' := 257) dX11_tryHomes_256 rfl rfl ?_
        refine gj_iadd (pc' := 258) dX11_tryHomes_257 rfl ?_
        refine gj_imul (pc' := 259) dX11_tryHomes_258 rfl ?_
        refine gj_aload_n (pc' := 260) dX11_tryHomes_259 rfl rfl ?_
        refine gj_iload_n (pc' := 261) dX11_tryHomes_260 rfl rfl ?_
        refine gj_iload_n (pc' := 262) dX11_tryHomes_261 rfl rfl ?_
        refine gr_X11_349 (pc' := 265) dX11_tryHomes_262 rfl (m_straysOn (c := p) hM2 (fun s hs => by rw [k2 152 (by decide) (by decide) (by decide)]; exact hdg s hs) k0 (by omega)) rfl (by first | rfl | assumption) (by omega) rfl (Nat.le_of_ble_eq_true rfl) ?_
        refine gj_iadd (pc' := 266) dX11_tryHomes_265 rfl ?_
        refine gj_dup2 (pc' := 267) dX11_tryHomes_266 rfl rfl rfl ?_
        refine gj_iald (pc' := 268) (j := 4 * (41 * k + e) + stN T p k e) (by first | rfl | assumption) (by omega) (by omega) (by decide) dX11_tryHomes_267 rfl ?_
        refine gj_iconst (pc' := 269) dX11_tryHomes_268 rfl ?_
        refine gj_iadd (pc' := 270) dX11_tryHomes_269 rfl ?_
        refine gj_iast (pc' := 271) (j := 4 * (41 * k + e) + stN T p k e) (by first | rfl | assumption) (by omega) (by omega) (by decide) dX11_tryHomes_270 rfl ?_
        refine gj_iinc (pc' := 274) dX11_tryHomes_271 rfl rfl (by decide) ?_
        refine gj_goto (pc' := 241) dX11_tryHomes_274 (by decide) ?_
        refine gJ_wk (ih_e  _ (by omega) ?iv_5) ?ll_5
        case ll_5 =>
          repeat' (first | exact True.intro | with_reducible exact rfl | refine And.intro ?_ ?_ | refine vI ?_ | refine vL ?_)
          all_goals omega
        refine ⟨k0, k1, fun a a1 a2 a3 => (gui_n a3).trans (k2 a a1 a2 a3), fun k hk => ?_, ?_, fun i hi k hk => ?_, fun i hi f hf q hq => ?_⟩
        · rw [gui_n (by decide)]; exact k3 k hk
        · rw [gui_n (by decide)]; exact k4
        · rw [gui_n (by decide)]; exact k5 i hi k hk
        · rw [gui_s]
          have h66 := k6 i hi f hf q hq
          by_cases z : 4 * (41 * i + f) + q = 4 * (41 * k + e) + stN T p k e
          · have e1 : i = k := by omega
            subst e1
            have e3 : f = e := by omega
            subst e3
            have e2 : stN T p i f = q := by omega
            rw [if_neg (by omega)] at h66
            rw [z, up1_s, if_pos ⟨by omega, e2⟩, ← z, h66]
            omega
          · rw [up1_n z, h66]
            by_cases y : (i < k ∨ (i = k ∧ f < e)) ∧ stN T p i f = q
            · rw [if_pos y, if_pos ⟨by omega, y.2⟩]
            · rw [if_neg y, if_neg (fun x => y ⟨by
                rcases x.1 with q1 | ⟨q1, q2⟩
                · exact Or.inl q1
                · refine Or.inr ⟨q1, ?_⟩
                  rcases Nat.lt_or_ge f e with r | r
                  · exact r
                  · exfalso
                    obtain rfl : f = e := by omega
                    subst q1
                    have := x.2
                    omega, x.2⟩)]
  · have hgs := (okR_t.mp ho s (by omega)).1
    refine gj_aload_n (pc' := 202) dX11_tryHomes_201 rfl rfl ?_
    refine gf_X11_47 (pc' := 205) dX11_tryHomes_202 rfl (by first | rfl | assumption) rfl ?_
    refine gj_bipush (pc' := 207) dX11_tryHomes_205 rfl (by decide) ?_
    refine gj_iload_n (pc' := 208) dX11_tryHomes_207 rfl rfl ?_
    refine gj_imul (pc' := 209) dX11_tryHomes_208 rfl ?_
    refine gj_aload_n (pc' := 210) dX11_tryHomes_209 rfl rfl ?_
    refine gf_X11_41 (pc' := 213) dX11_tryHomes_210 rfl (by first | rfl | assumption) rfl ?_
    refine gj_iload_n (pc' := 214) dX11_tryHomes_213 rfl rfl ?_
    refine gj_iald (pc' := 215) (j := s) (by first | rfl | assumption) (by omega) (by omega) (by decide) dX11_tryHomes_214 rfl ?_
    rw [i2 152 (by decide) (by decide), hdg s (by omega)]
    refine gj_iadd (pc' := 216) dX11_tryHomes_215 rfl ?_
    refine gj_dup2 (pc' := 217) dX11_tryHomes_216 rfl rfl rfl ?_
    refine gj_iald (pc' := 218) (j := 6 * s + gDg (T 5) p s) (by first | rfl | assumption) (by omega) (by omega) (by decide) dX11_tryHomes_217 rfl ?_
    refine gj_iconst (pc' := 219) dX11_tryHomes_218 rfl ?_
    refine gj_iadd (pc' := 220) dX11_tryHomes_219 rfl ?_
    refine gj_iast (pc' := 221) (j := 6 * s + gDg (T 5) p s) (by first | rfl | assumption) (by omega) (by omega) (by decide) dX11_tryHomes_220 rfl ?_
    refine gj_iinc (pc' := 224) dX11_tryHomes_221 rfl rfl (by decide) ?_
    refine gj_goto (pc' := 191) dX11_tryHomes_224 (by decide) ?_
    refine gJ_wk (ih_s  _ (by omega) ?iv_6) ?ll_6
    case ll_6 =>
      repeat' (first | exact True.intro | with_reducible exact rfl | refine And.intro ?_ ?_ | refine vI ?_ | refine vL ?_)
      all_goals omega
    refine ⟨i1, fun a a1 a2 => (gui_n a2).trans (i2 a a1 a2), fun k hk => ?_, ?_, fun i hi k hk => ?_⟩
    · rw [gui_n (by decide)]; exact i3 k hk
    · rw [gui_n (by decide)]; exact i4
    · rw [gui_s]
      have h55 := i5 i hi k hk
      by_cases z : 6 * i + k = 6 * s + gDg (T 5) p s
      · have e1 : i = s := by omega
        subst e1
        have e2 : gDg (T 5) p i = k := by omega
        rw [if_neg (by omega)] at h55
        rw [z, up1_s, if_pos ⟨by omega, e2⟩, ← z, h55]
        omega
      · rw [up1_n z, h55]
        by_cases y : i < s ∧ gDg (T 5) p i = k
        · rw [if_pos y, if_pos ⟨by omega, y.2⟩]
        · rw [if_neg y, if_neg (fun x => y ⟨by
            rcases Nat.lt_or_ge i s with q | q
            · exact q
            · exfalso
              obtain rfl : i = s := by omega
              omega, x.2⟩)]
