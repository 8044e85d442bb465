/-! TOKENS; the class's tape -/
def soB (b : Nat) : Nat := if 97 ≤ b ∧ b ≤ 122 then 1 else if 48 ≤ b ∧ b ≤ 57 then 2 else if b = 59 then 3 else 4
def tSk (B : Nat → Nat) (e : Nat) : Nat → Nat → Nat
  | 0, p => p
  | f + 1, p => if p < e ∧ B p = 32 then tSk B e f (p + 1) else p
def tS (B : Nat → Nat) (e p : Nat) : Nat := tSk B e (e - p) p
def tRk (B : Nat → Nat) (e s : Nat) : Nat → Nat → Nat
  | 0, p => p
  | f + 1, p => if p < e ∧ soB (B p) = s then tRk B e s f (p + 1) else p
def tR (B : Nat → Nat) (e s p : Nat) : Nat := tRk B e s (e - p) p
theorem tS_t {B : Nat → Nat} {e p : Nat} (h1 : p < e) (h2 : B p = 32) : tS B e p = tS B e (p + 1) := by
  unfold tS
  rw [show e - p = (e - (p + 1)) + 1 by omega]
  show (if p < e ∧ B p = 32 then tSk B e (e - (p + 1)) (p + 1) else p) = _
  rw [if_pos ⟨h1, h2⟩]
theorem tS_f {B : Nat → Nat} {e p : Nat} (h : ¬ (p < e ∧ B p = 32)) : tS B e p = p := by
  unfold tS
  cases e - p with
  | zero => rfl
  | succ f =>
    show (if p < e ∧ B p = 32 then tSk B e f (p + 1) else p) = _
    rw [if_neg h]
theorem tR_t {B : Nat → Nat} {e s p : Nat} (h1 : p < e) (h2 : soB (B p) = s) : tR B e s p = tR B e s (p + 1) := by
  unfold tR
  rw [show e - p = (e - (p + 1)) + 1 by omega]
  show (if p < e ∧ soB (B p) = s then tRk B e s (e - (p + 1)) (p + 1) else p) = _
  rw [if_pos ⟨h1, h2⟩]
theorem tR_f {B : Nat → Nat} {e s p : Nat} (h : ¬ (p < e ∧ soB (B p) = s)) : tR B e s p = p := by
  unfold tR
  cases e - p with
  | zero => rfl
  | succ f =>
    show (if p < e ∧ soB (B p) = s then tRk B e s f (p + 1) else p) = _
    rw [if_neg h]
theorem tSk_in (B : Nat → Nat) (e : Nat) : ∀ f p, p + f ≤ e → p ≤ tSk B e f p ∧ tSk B e f p ≤ p + f
  | 0, p, _ => ⟨Nat.le_refl p, Nat.le_refl p⟩
  | f + 1, p, h => by
    have ih := tSk_in B e f (p + 1) (by omega)
    show p ≤ (if p < e ∧ B p = 32 then tSk B e f (p + 1) else p) ∧ (if p < e ∧ B p = 32 then tSk B e f (p + 1) else p) ≤ p + (f + 1)
    split <;> omega
theorem tS_in {B : Nat → Nat} {e p : Nat} (h : p ≤ e) : p ≤ tS B e p ∧ tS B e p ≤ e := by
  have := tSk_in B e (e - p) p (by omega)
  unfold tS
  omega
theorem tRk_in (B : Nat → Nat) (e s : Nat) : ∀ f p, p + f ≤ e → (p ≤ tRk B e s f p ∧ tRk B e s f p ≤ p + f) ∧ ∀ k, p ≤ k → k < tRk B e s f p → soB (B k) = s
  | 0, p, _ => ⟨⟨Nat.le_refl p, Nat.le_refl p⟩, fun k k1 k2 => by
    have : k < p := k2
    omega⟩
  | f + 1, p, h => by
    have ih := tRk_in B e s f (p + 1) (by omega)
    show (p ≤ (if p < e ∧ soB (B p) = s then tRk B e s f (p + 1) else p) ∧ (if p < e ∧ soB (B p) = s then tRk B e s f (p + 1) else p) ≤ p + (f + 1)) ∧ ∀ k, p ≤ k → k < (if p < e ∧ soB (B p) = s then tRk B e s f (p + 1) else p) → soB (B k) = s
    by_cases q : p < e ∧ soB (B p) = s
    · rw [if_pos q]
      refine ⟨by omega, fun k k1 k2 => ?_⟩
      by_cases z : k = p
      · rw [z]; exact q.2
      · exact ih.2 k (by omega) k2
    · rw [if_neg q]
      exact ⟨by omega, fun k k1 k2 => by omega⟩
theorem tR_in {B : Nat → Nat} {e s p : Nat} (h : p ≤ e) : (p ≤ tR B e s p ∧ tR B e s p ≤ e) ∧ ∀ k, p ≤ k → k < tR B e s p → soB (B k) = s := by
  have := tRk_in B e s (e - p) p (by omega)
  unfold tR
  exact ⟨by omega, this.2⟩
theorem tR_gt {B : Nat → Nat} {e s p : Nat} (h1 : p < e) (h2 : soB (B p) = s) : p < tR B e s p := by
  rw [tR_t h1 h2]
  have := (tR_in (B := B) (e := e) (s := s) (p := p + 1) (by omega)).1
  omega
def tSo (B : Nat → Nat) (e p : Nat) : Nat := if tS B e p < e then soB (B (tS B e p)) else 0
def tEn (B : Nat → Nat) (e p : Nat) : Nat := if tSo B e p = 1 ∨ tSo B e p = 2 then tR B e (tSo B e p) (tS B e p) else min (tS B e p + 1) e
def tLn (B : Nat → Nat) (e p : Nat) : Nat := tEn B e p - tS B e p
def tSr (B : Nat → Nat) (e p : Nat) : Nat := if (tSo B e p = 1 ∧ 8 < tLn B e p) ∨ (tSo B e p = 2 ∧ 3 < tLn B e p) then 4 else tSo B e p
def wdN (f : Nat → Nat) : Nat → Nat
  | 0 => 0
  | i + 1 => wdN f i * 32 + f i % 32
def whN (f : Nat → Nat) : Nat → Nat
  | 0 => 0
  | i + 1 => whN f i * 10 + (f i - 48)
def tWd (B : Nat → Nat) (e p : Nat) : Nat := wdN (fun i => B (tS B e p + i)) (tLn B e p)
def tWh (B : Nat → Nat) (e p : Nat) : Nat := whN (fun i => B (tS B e p + i)) (tLn B e p)
theorem wdN_lt (f : Nat → Nat) : ∀ i, wdN f i < 32 ^ i
  | 0 => Nat.lt_succ_self 0
  | i + 1 => by
    have ih := wdN_lt f i
    have := Nat.mod_lt (f i) (show 32 > 0 by decide)
    show wdN f i * 32 + f i % 32 < 32 ^ i * 32
    omega
theorem wdN_8 (f : Nat → Nat) {i : Nat} (hi : i ≤ 8) : wdN f i < 1099511627776 := by
  have h := wdN_lt f i
  have h2 : 32 ^ i ≤ 32 ^ 8 := Nat.pow_le_pow_right (by omega) hi
  omega
theorem soB_le (b : Nat) : soB b ≤ 4 := by
  unfold soB
  (repeat' split) <;> omega
theorem soB_lo {b s : Nat} (h : soB b = s) (hs : s = 1 ∨ s = 2) : 48 ≤ b ∧ b < 128 := by
  unfold soB at h
  split at h
  · omega
  · split at h
    · omega
    · split at h <;> omega
-- longs: five bits more
theorem zL_tn {n : Nat} (h : n < 2 ^ 64) : (zL (n : Int)).toBitVec.toNat = n := by
  show (BitVec.ofInt 64 (n : Int)).toNat = n
  rw [BitVec.ofInt_natCast, BitVec.toNat_ofNat, Nat.mod_eq_of_lt h]
theorem i64_small {x : Int64} (h : x.toBitVec.toNat < 2 ^ 63) : x.toInt = (x.toBitVec.toNat : Int) := by
  show x.toBitVec.toInt = _
  rw [BitVec.toInt_eq_toNat_of_lt (by omega)]
theorem lsh5 {a : Nat} (ha : a < 1099511627776) : (zL (a : Int) <<< ((zI 5).toInt64 &&& 63)).toInt = ((a * 32 : Nat) : Int) := by
  have hc : (zI 5).toInt64 &&& 63 = zL 5 := by decide +kernel
  have hm : (zL 5).toBitVec.smod 64 = 5#64 := by decide +kernel
  have e : (zL (a : Int) <<< ((zI 5).toInt64 &&& 63)).toBitVec.toNat = a * 32 := by
    rw [hc, Int64.toBitVec_shiftLeft, hm]
    show ((zL (a : Int)).toBitVec <<< (5#64).toNat).toNat = a * 32
    rw [BitVec.toNat_shiftLeft, zL_tn (by omega), show (5#64).toNat = 5 from rfl, Nat.shiftLeft_eq, Nat.mod_eq_of_lt (by omega)]
  rw [i64_small (by rw [e]; omega), e]
theorem lor5 {a b : Nat} (ha : a < 1099511627776) (hb : b < 32) : (zL ((a * 32 : Nat) : Int) ||| zL (b : Int)).toInt = ((a * 32 + b : Nat) : Int) := by
  have e : (zL ((a * 32 : Nat) : Int) ||| zL (b : Int)).toBitVec.toNat = a * 32 + b := by
    rw [Int64.toBitVec_or, BitVec.toNat_or, zL_tn (by omega), zL_tn (by omega)]
    have := Nat.two_pow_add_eq_or_of_lt (i := 5) (b := b) hb a
    rw [show a * 32 = 2 ^ 5 * a by omega, ← this]
  rw [i64_small (by rw [e]; omega), e]
theorem an31 {b : Nat} (hb : b < 2147483648) : (zI (b : Int) &&& zI 31).toInt = ((b % 32 : Nat) : Int) := by
  rw [show (31 : Int) = ((31 : Nat) : Int) from rfl, bt_and (by omega) (by omega), show (31 : Nat) = 2 ^ 5 - 1 from rfl, Nat.and_two_pow_sub_one_eq_mod]
-- the class's tape
def TB (h : gH) (B : Nat → Nat) (e : Nat) : Prop := (e ≤ 900 ∧ h.1 1 6 = 0) ∧ h.1 2 2 = (e : Int) ∧ ∀ j, j < e → B j < 256 ∧ h.1 3 j = sb8 (B j : Int)
/-- what a step on the tape leaves -/
def tpE (h h' : gH) : Prop := h'.2.2 = h.2.2 ∧ (∀ o, o ≠ 2 → h'.1 o = h.1 o ∧ h'.2.1 o = h.2.1 o) ∧ (∀ k, k < 3 → h'.1 2 k = h.1 2 k)
theorem tpE.tr {h h1 h2 : gH} (a : tpE h h1) (b : tpE h1 h2) : tpE h h2 := ⟨b.1.trans a.1, fun o ho => ⟨(b.2.1 o ho).1.trans (a.2.1 o ho).1, (b.2.1 o ho).2.trans (a.2.1 o ho).2⟩, fun k hk => (b.2.2 k hk).trans (a.2.2 k hk)⟩
theorem TB.to {h h' : gH} {B : Nat → Nat} {e : Nat} (a : TB h B e) (q : tpE h h') : TB h' B e := ⟨⟨a.1.1, by rw [(q.2.1 1 (by decide)).1]; exact a.1.2⟩, (q.2.2 2 (by decide)).trans a.2.1, fun j hj => ⟨(a.2.2 j hj).1, by rw [(q.2.1 3 (by decide)).1]; exact (a.2.2 j hj).2⟩⟩
theorem tpE.put {h : gH} {k : Nat} {x : Int} (hk : 3 ≤ k) : tpE h (gui h 2 k x) := ⟨rfl, fun o ho => ⟨gui_n ho, rfl⟩, fun i hi => by rw [gui_s, up1_n (by omega)]⟩
theorem tpE.rf (h : gH) : tpE h h := ⟨rfl, fun _ _ => ⟨rfl, rfl⟩, fun _ _ => rfl⟩
theorem tpE.pul {h : gH} {x : Int} : tpE h (gul h 2 7 x) := ⟨rfl, fun o ho => ⟨rfl, u2_n ho⟩, fun i hi => rfl⟩
theorem s_sortOf {h : gH} {b : Nat} (hb : b < 256) : gSp 1 yX8_sortOf cX8_sortOf 1 (some .int) [.int (zI (sb8 (b : Int)))] h (gR (.int (zI (soB b : Nat))) h) := by
  have hs := sb8_in hb
  have hs2 : (b < 128 ∧ sb8 (b : Int) = (b : Int)) ∨ (128 ≤ b ∧ sb8 (b : Int) = (b : Int) - 256) := by unfold sb8; split <;> omega
  refine gSp_of (by decide +kernel) (Nat.le_of_ble_eq_true rfl) ?_
  show gJ RX8 cX8_sortOf 1 (some .int) _ 0 [some (.int (zI (sb8 (b : Int))))] [] _ _
  refine gj_iload_n (pc' := 1) dX8_sortOf_0 rfl rfl ?_
  refine gj_bipush (pc' := 3) dX8_sortOf_1 rfl (by decide) ?_
  refine gj_icmp_lt (pc' := 6) (tgt := 14) dX8_sortOf_3 (by decide) rfl (by omega) (fun c3 => ?_) (fun c3 => ?_)
  · refine gj_iload_n (pc' := 15) dX8_sortOf_14 rfl rfl ?_
    refine gj_bipush (pc' := 17) dX8_sortOf_15 rfl (by decide) ?_
    refine gj_icmp_lt (pc' := 20) (tgt := 28) dX8_sortOf_17 (by decide) rfl (by omega) (fun c17 => ?_) (fun c17 => ?_)
    · refine gj_iload_n (pc' := 29) dX8_sortOf_28 rfl rfl ?_
      refine gj_bipush (pc' := 31) dX8_sortOf_29 rfl (by decide) ?_
      refine gj_icmp_ne (pc' := 34) (tgt := 38) dX8_sortOf_31 (by decide) rfl (by omega) (fun c31 => ?_) (fun c31 => ?_)
      · refine gj_iconst (pc' := 39) dX8_sortOf_38 rfl ?_
        refine gj_iret rfl dX8_sortOf_39 ?_
        exact gR_i (by unfold soB; (repeat' split) <;> omega)
      · refine gj_iconst (pc' := 35) dX8_sortOf_34 rfl ?_
        refine gj_goto (pc' := 39) dX8_sortOf_35 (by decide) ?_
        refine gj_iret rfl dX8_sortOf_39 ?_
        exact gR_i (by unfold soB; (repeat' split) <;> omega)
    · refine gj_iload_n (pc' := 21) dX8_sortOf_20 rfl rfl ?_
      refine gj_bipush (pc' := 23) dX8_sortOf_21 rfl (by decide) ?_
      refine gj_icmp_gt (pc' := 26) (tgt := 28) dX8_sortOf_23 (by decide) rfl (by omega) (fun c23 => ?_) (fun c23 => ?_)
      · refine gj_iload_n (pc' := 29) dX8_sortOf_28 rfl rfl ?_
        refine gj_bipush (pc' := 31) dX8_sortOf_29 rfl (by decide) ?_
        refine gj_icmp_ne (pc' := 34) (tgt := 38) dX8_sortOf_31 (by decide) rfl (by omega) (fun c31 => ?_) (fun c31 => ?_)
        · refine gj_iconst (pc' := 39) dX8_sortOf_38 rfl ?_
          refine gj_iret rfl dX8_sortOf_39 ?_
          exact gR_i (by unfold soB; (repeat' split) <;> omega)
        · refine gj_iconst (pc' := 35) dX8_sortOf_34 rfl ?_
          refine gj_goto (pc' := 39) dX8_sortOf_35 (by decide) ?_
          refine gj_iret rfl dX8_sortOf_39 ?_
          exact gR_i (by unfold soB; (repeat' split) <;> omega)
      · refine gj_iconst (pc' := 27) dX8_sortOf_26 rfl ?_
        refine gj_iret rfl dX8_sortOf_27 ?_
        exact gR_i (by unfold soB; (repeat' split) <;> omega)
  · refine gj_iload_n (pc' := 7) dX8_sortOf_6 rfl rfl ?_
    refine gj_bipush (pc' := 9) dX8_sortOf_7 rfl (by decide) ?_
    refine gj_icmp_gt (pc' := 12) (tgt := 14) dX8_sortOf_9 (by decide) rfl (by omega) (fun c9 => ?_) (fun c9 => ?_)
    · refine gj_iload_n (pc' := 15) dX8_sortOf_14 rfl rfl ?_
      refine gj_bipush (pc' := 17) dX8_sortOf_15 rfl (by decide) ?_
      refine gj_icmp_lt (pc' := 20) (tgt := 28) dX8_sortOf_17 (by decide) rfl (by omega) (fun c17 => ?_) (fun c17 => ?_)
      · refine gj_iload_n (pc' := 29) dX8_sortOf_28 rfl rfl ?_
        refine gj_bipush (pc' := 31) dX8_sortOf_29 rfl (by decide) ?_
        refine gj_icmp_ne (pc' := 34) (tgt := 38) dX8_sortOf_31 (by decide) rfl (by omega) (fun c31 => ?_) (fun c31 => ?_)
        · refine gj_iconst (pc' := 39) dX8_sortOf_38 rfl ?_
          refine gj_iret rfl dX8_sortOf_39 ?_
          exact gR_i (by unfold soB; (repeat' split) <;> omega)
        · refine gj_iconst (pc' := 35) dX8_sortOf_34 rfl ?_
          refine gj_goto (pc' := 39) dX8_sortOf_35 (by decide) ?_
          refine gj_iret rfl dX8_sortOf_39 ?_
          exact gR_i (by unfold soB; (repeat' split) <;> omega)
      · refine gj_iload_n (pc' := 21) dX8_sortOf_20 rfl rfl ?_
        refine gj_bipush (pc' := 23) dX8_sortOf_21 rfl (by decide) ?_
        refine gj_icmp_gt (pc' := 26) (tgt := 28) dX8_sortOf_23 (by decide) rfl (by omega) (fun c23 => ?_) (fun c23 => ?_)
        · refine gj_iload_n (pc' := 29) dX8_sortOf_28 rfl rfl ?_
          refine gj_bipush (pc' := 31) dX8_sortOf_29 rfl (by decide) ?_
          refine gj_icmp_ne (pc' := 34) (tgt := 38) dX8_sortOf_31 (by decide) rfl (by omega) (fun c31 => ?_) (fun c31 => ?_)
          · refine gj_iconst (pc' := 39) dX8_sortOf_38 rfl ?_
            refine gj_iret rfl dX8_sortOf_39 ?_
            exact gR_i (by unfold soB; (repeat' split) <;> omega)
          · refine gj_iconst (pc' := 35) dX8_sortOf_34 rfl ?_
            refine gj_goto (pc' := 39) dX8_sortOf_35 (by decide) ?_
            refine gj_iret rfl dX8_sortOf_39 ?_
            exact gR_i (by unfold soB; (repeat' split) <;> omega)
        · refine gj_iconst (pc' := 27) dX8_sortOf_26 rfl ?_
          refine gj_iret rfl dX8_sortOf_27 ?_
          exact gR_i (by unfold soB; (repeat' split) <;> omega)
    · refine gj_iconst (pc' := 13) dX8_sortOf_12 rfl ?_
      refine gj_iret rfl dX8_sortOf_13 ?_
      exact gR_i (by unfold soB; (repeat' split) <;> omega)
theorem s_takeRun {h : gH} {B : Nat → Nat} {e s q : Nat} (hB : TB h B e) (h3 : h.1 2 3 = (s : Int)) (h5 : h.1 2 5 = (q : Int)) (h6 : h.1 2 6 = 0) (h7 : h.2.1 2 7 = 0) (hs : s < e) (hq : q = 1 ∨ q = 2) (hsq : soB (B s) = q) : gSp 2 yX8_takeRun cX8_takeRun 1 none [.ref 2] h (fun v h' => v = none ∧ tpE h h' ∧ h'.1 2 3 = (s : Int) ∧ h'.1 2 4 = (tR B e q s : Int) ∧ h'.1 2 5 = ((if (q = 1 ∧ 8 < tR B e q s - s) ∨ (q = 2 ∧ 3 < tR B e q s - s) then 4 else q : Nat) : Int) ∧ (tR B e q s - s ≤ 8 → h'.2.1 2 7 = (wdN (fun i => B (s + i)) (tR B e q s - s) : Int)) ∧ h'.1 2 6 = (whN (fun i => B (s + i)) (tR B e q s - s) : Int)) := by
  have he := hB.1
  have hin := tR_in (B := B) (e := e) (s := q) (p := s) (by omega)
  refine gSp_of (by decide +kernel) (Nat.le_of_ble_eq_true rfl) ?_
  show gJ RX8 cX8_takeRun 1 none _ 0 [some (.ref 2)] [] _ _
  refine gj_aload_n (pc' := 1) dX8_takeRun_0 rfl rfl ?_
  refine gj_aload_n (pc' := 2) dX8_takeRun_1 rfl rfl ?_
  refine gf_X8_32 (pc' := 5) dX8_takeRun_2 rfl (by first | rfl | assumption) rfl ?_
  rw [h3]
  refine gp_X8_26 (pc' := 8) dX8_takeRun_5 rfl (by first | rfl | assumption) rfl ?_
  refine gJ_wk (gJ_fH0 (L := fun j  => [some (.ref 2)]) (I := fun j  hp => tpE h hp ∧ hp.1 2 3 = (s : Int) ∧ hp.1 2 4 = ((s + j : Nat) : Int) ∧ hp.1 2 5 = (q : Int) ∧ tR B e q s = tR B e q (s + j) ∧ (j ≤ 8 → hp.2.1 2 7 = (wdN (fun i => B (s + i)) j : Int)) ∧ hp.1 2 6 = (whN (fun i => B (s + i)) j : Int)) (e - s) (fun j  hp hb_j iv_j ih_j => ?step_1) (0) (Nat.zero_le _)  _ ?iv0_1) ?ll0_1
  case ll0_1 =>
    repeat' (first | exact True.intro | with_reducible exact rfl | refine And.intro ?_ ?_ | refine vI ?_ | refine vL ?_)
    all_goals first | rfl | omega
  case iv0_1 =>
    exact ⟨tpE.put (by decide), by rw [gui_s, up1_n (by decide)]; exact h3, by rw [gui_s, up1_s]; rfl, by rw [gui_s, up1_n (by decide)]; exact h5, rfl, fun _ => h7, by rw [gui_s, up1_n (by decide)]; exact h6⟩
  obtain ⟨i1, i3, i4, i5, i6, i7, i8⟩ := iv_j
  have hB2 := hB.to i1
  have hbj := fun z : s + j < e => hB2.2.2 (s + j) z
  refine gj_aload_n (pc' := 9) dX8_takeRun_8 rfl rfl ?_
  refine gf_X8_26 (pc' := 12) dX8_takeRun_9 rfl (by first | rfl | assumption) rfl ?_
  rw [i4]
  refine gj_aload_n (pc' := 13) dX8_takeRun_12 rfl rfl ?_
  refine gf_X8_23 (pc' := 16) dX8_takeRun_13 rfl (by first | rfl | assumption) rfl ?_
  rw [hB2.2.1]
  refine gj_icmp_ge (pc' := 19) (tgt := 99) dX8_takeRun_16 (by decide) rfl (by omega) (fun c16 => ?_) (fun c16 => ?_)
  · have hR : tR B e q s = s + j := by
      rw [i6]
      apply tR_f
      intro z
      first
      | omega
      | (have := z.2; omega)
    refine gj_aload_n (pc' := 100) dX8_takeRun_99 rfl rfl ?_
    refine gf_X8_26 (pc' := 103) dX8_takeRun_100 rfl (by first | rfl | assumption) rfl ?_
    rw [i4]
    refine gj_aload_n (pc' := 104) dX8_takeRun_103 rfl rfl ?_
    refine gf_X8_32 (pc' := 107) dX8_takeRun_104 rfl (by first | rfl | assumption) rfl ?_
    rw [i3]
    refine gj_isub (pc' := 108) dX8_takeRun_107 rfl ?_
    refine gj_aload_n (pc' := 109) dX8_takeRun_108 rfl rfl ?_
    refine gf_X8_39 (pc' := 112) dX8_takeRun_109 rfl (by first | rfl | assumption) rfl ?_
    rw [i5]
    refine gj_iconst (pc' := 113) dX8_takeRun_112 rfl ?_
    refine gj_icmp_ne (pc' := 116) (tgt := 121) dX8_takeRun_113 (by decide) rfl (by omega) (fun c113 => ?_) (fun c113 => ?_)
    · refine gj_iconst (pc' := 122) dX8_takeRun_121 rfl ?_
      refine gj_icmp_le (pc' := 125) (tgt := 130) dX8_takeRun_122 (by decide) rfl (by omega) (fun c122 => ?_) (fun c122 => ?_)
      · refine gj_vret rfl dX8_takeRun_130 ?_
        rw [hR, show s + j - s = j by omega]
        first
        | (rw [if_pos (by omega)]
           exact ⟨rfl, i1.tr (tpE.put (by decide)), by rw [gui_s, up1_n (by decide)]; exact i3, by rw [gui_s, up1_n (by decide)]; exact i4, by rw [gui_s, up1_s]; rfl, i7, by rw [gui_s, up1_n (by decide)]; exact i8⟩)
        | (rw [if_neg (by omega)]
           exact ⟨rfl, i1, i3, i4, i5, i7, i8⟩)
      · refine gj_aload_n (pc' := 126) dX8_takeRun_125 rfl rfl ?_
        refine gj_iconst (pc' := 127) dX8_takeRun_126 rfl ?_
        refine gp_X8_39 (pc' := 130) dX8_takeRun_127 rfl (by first | rfl | assumption) rfl ?_
        refine gj_vret rfl dX8_takeRun_130 ?_
        rw [hR, show s + j - s = j by omega]
        first
        | (rw [if_pos (by omega)]
           exact ⟨rfl, i1.tr (tpE.put (by decide)), by rw [gui_s, up1_n (by decide)]; exact i3, by rw [gui_s, up1_n (by decide)]; exact i4, by rw [gui_s, up1_s]; rfl, i7, by rw [gui_s, up1_n (by decide)]; exact i8⟩)
        | (rw [if_neg (by omega)]
           exact ⟨rfl, i1, i3, i4, i5, i7, i8⟩)
    · refine gj_bipush (pc' := 118) dX8_takeRun_116 rfl (by decide) ?_
      refine gj_goto (pc' := 122) dX8_takeRun_118 (by decide) ?_
      refine gj_icmp_le (pc' := 125) (tgt := 130) dX8_takeRun_122 (by decide) rfl (by omega) (fun c122 => ?_) (fun c122 => ?_)
      · refine gj_vret rfl dX8_takeRun_130 ?_
        rw [hR, show s + j - s = j by omega]
        first
        | (rw [if_pos (by omega)]
           exact ⟨rfl, i1.tr (tpE.put (by decide)), by rw [gui_s, up1_n (by decide)]; exact i3, by rw [gui_s, up1_n (by decide)]; exact i4, by rw [gui_s, up1_s]; rfl, i7, by rw [gui_s, up1_n (by decide)]; exact i8⟩)
        | (rw [if_neg (by omega)]
           exact ⟨rfl, i1, i3, i4, i5, i7, i8⟩)
      · refine gj_aload_n (pc' := 126) dX8_takeRun_125 rfl rfl ?_
        refine gj_iconst (pc' := 127) dX8_takeRun_126 rfl ?_
        refine gp_X8_39 (pc' := 130) dX8_takeRun_127 rfl (by first | rfl | assumption) rfl ?_
        refine gj_vret rfl dX8_takeRun_130 ?_
        rw [hR, show s + j - s = j by omega]
        first
        | (rw [if_pos (by omega)]
           exact ⟨rfl, i1.tr (tpE.put (by decide)), by rw [gui_s, up1_n (by decide)]; exact i3, by rw [gui_s, up1_n (by decide)]; exact i4, by rw [gui_s, up1_s]; rfl, i7, by rw [gui_s, up1_n (by decide)]; exact i8⟩)
        | (rw [if_neg (by omega)]
           exact ⟨rfl, i1, i3, i4, i5, i7, i8⟩)
  · refine gj_aload_n (pc' := 20) dX8_takeRun_19 rfl rfl ?_
    refine gf_X8_9 (pc' := 23) dX8_takeRun_20 rfl (by first | rfl | assumption) rfl ?_
    refine gj_aload_n (pc' := 24) dX8_takeRun_23 rfl rfl ?_
    refine gf_X8_26 (pc' := 27) dX8_takeRun_24 rfl (by first | rfl | assumption) rfl ?_
    rw [i4]
    refine gj_bald (pc' := 28) (j := s + j) (by first | rfl | assumption) (by omega) (by omega) (by decide) dX8_takeRun_27 rfl ?_
    rw [(hbj (by omega)).2]
    refine gr_X8_35 (pc' := 31) dX8_takeRun_28 rfl (s_sortOf (hbj (by omega)).1) rfl (by decide) rfl (Nat.le_of_ble_eq_true rfl) ?_
    refine gj_aload_n (pc' := 32) dX8_takeRun_31 rfl rfl ?_
    refine gf_X8_39 (pc' := 35) dX8_takeRun_32 rfl (by first | rfl | assumption) rfl ?_
    rw [i5]
    refine gj_icmp_ne (pc' := 38) (tgt := 99) dX8_takeRun_35 (by decide) rfl (by have := soB_le (B (s + j)); omega) (fun c35 => ?_) (fun c35 => ?_)
    · have hR : tR B e q s = s + j := by
        rw [i6]
        apply tR_f
        intro z
        first
        | omega
        | (have := z.2; omega)
      refine gj_aload_n (pc' := 100) dX8_takeRun_99 rfl rfl ?_
      refine gf_X8_26 (pc' := 103) dX8_takeRun_100 rfl (by first | rfl | assumption) rfl ?_
      rw [i4]
      refine gj_aload_n (pc' := 104) dX8_takeRun_103 rfl rfl ?_
      refine gf_X8_32 (pc' := 107) dX8_takeRun_104 rfl (by first | rfl | assumption) rfl ?_
      rw [i3]
      refine gj_isub (pc' := 108) dX8_takeRun_107 rfl ?_
      refine gj_aload_n (pc' := 109) dX8_takeRun_108 rfl rfl ?_
      refine gf_X8_39 (pc' := 112) dX8_takeRun_109 rfl (by first | rfl | assumption) rfl ?_
      rw [i5]
      refine gj_iconst (pc' := 113) dX8_takeRun_112 rfl ?_
      refine gj_icmp_ne (pc' := 116) (tgt := 121) dX8_takeRun_113 (by decide) rfl (by omega) (fun c113 => ?_) (fun c113 => ?_)
      · refine gj_iconst (pc' := 122) dX8_takeRun_121 rfl ?_
        refine gj_icmp_le (pc' := 125) (tgt := 130) dX8_takeRun_122 (by decide) rfl (by omega) (fun c122 => ?_) (fun c122 => ?_)
        · refine gj_vret rfl dX8_takeRun_130 ?_
          rw [hR, show s + j - s = j by omega]
          first
          | (rw [if_pos (by omega)]
             exact ⟨rfl, i1.tr (tpE.put (by decide)), by rw [gui_s, up1_n (by decide)]; exact i3, by rw [gui_s, up1_n (by decide)]; exact i4, by rw [gui_s, up1_s]; rfl, i7, by rw [gui_s, up1_n (by decide)]; exact i8⟩)
          | (rw [if_neg (by omega)]
             exact ⟨rfl, i1, i3, i4, i5, i7, i8⟩)
        · refine gj_aload_n (pc' := 126) dX8_takeRun_125 rfl rfl ?_
          refine gj_iconst (pc' := 127) dX8_takeRun_126 rfl ?_
          refine gp_X8_39 (pc' := 130) dX8_takeRun_127 rfl (by first | rfl | assumption) rfl ?_
          refine gj_vret rfl dX8_takeRun_130 ?_
          rw [hR, show s + j - s = j by omega]
          first
          | (rw [if_pos (by omega)]
             exact ⟨rfl, i1.tr (tpE.put (by decide)), by rw [gui_s, up1_n (by decide)]; exact i3, by rw [gui_s, up1_n (by decide)]; exact i4, by rw [gui_s, up1_s]; rfl, i7, by rw [gui_s, up1_n (by decide)]; exact i8⟩)
          | (rw [if_neg (by omega)]
             exact ⟨rfl, i1, i3, i4, i5, i7, i8⟩)
      · refine gj_bipush (pc' := 118) dX8_takeRun_116 rfl (by decide) ?_
        refine gj_goto (pc' := 122) dX8_takeRun_118 (by decide) ?_
        refine gj_icmp_le (pc' := 125) (tgt := 130) dX8_takeRun_122 (by decide) rfl (by omega) (fun c122 => ?_) (fun c122 => ?_)
        · refine gj_vret rfl dX8_takeRun_130 ?_
          rw [hR, show s + j - s = j by omega]
          first
          | (rw [if_pos (by omega)]
             exact ⟨rfl, i1.tr (tpE.put (by decide)), by rw [gui_s, up1_n (by decide)]; exact i3, by rw [gui_s, up1_n (by decide)]; exact i4, by rw [gui_s, up1_s]; rfl, i7, by rw [gui_s, up1_n (by decide)]; exact i8⟩)
          | (rw [if_neg (by omega)]
             exact ⟨rfl, i1, i3, i4, i5, i7, i8⟩)
        · refine gj_aload_n (pc' := 126) dX8_takeRun_125 rfl rfl ?_
          refine gj_iconst (pc' := 127) dX8_takeRun_126 rfl ?_
          refine gp_X8_39 (pc' := 130) dX8_takeRun_127 rfl (by first | rfl | assumption) rfl ?_
          refine gj_vret rfl dX8_takeRun_130 ?_
          rw [hR, show s + j - s = j by omega]
          first
          | (rw [if_pos (by omega)]
             exact ⟨rfl, i1.tr (tpE.put (by decide)), by rw [gui_s, up1_n (by decide)]; exact i3, by rw [gui_s, up1_n (by decide)]; exact i4, by rw [gui_s, up1_s]; rfl, i7, by rw [gui_s, up1_n (by decide)]; exact i8⟩)
          | (rw [if_neg (by omega)]
             exact ⟨rfl, i1, i3, i4, i5, i7, i8⟩)
    · have hso : soB (B (s + j)) = q := by omega
      have hlo := soB_lo hso hq
      have hsb : sb8 (B (s + j) : Int) = (B (s + j) : Int) := by unfold sb8; rw [if_pos (by omega)]
      refine gj_aload_n (pc' := 39) dX8_takeRun_38 rfl rfl ?_
      refine gj_aload_n (pc' := 40) dX8_takeRun_39 rfl rfl ?_
      refine gf_X8_42 (pc' := 43) dX8_takeRun_40 rfl (by first | rfl | assumption) rfl ?_
      refine gj_iconst (pc' := 44) dX8_takeRun_43 rfl ?_
      refine gj_lshl (pc' := 45) dX8_takeRun_44 rfl ?_
      refine gj_aload_n (pc' := 46) dX8_takeRun_45 rfl rfl ?_
      refine gf_X8_9 (pc' := 49) dX8_takeRun_46 rfl (by first | rfl | assumption) rfl ?_
      refine gj_aload_n (pc' := 50) dX8_takeRun_49 rfl rfl ?_
      refine gf_X8_26 (pc' := 53) dX8_takeRun_50 rfl (by first | rfl | assumption) rfl ?_
      rw [i4]
      refine gj_bald (pc' := 54) (j := s + j) (by first | rfl | assumption) (by omega) (by omega) (by decide) dX8_takeRun_53 rfl ?_
      rw [(hbj (by omega)).2, hsb]
      refine gj_bipush (pc' := 56) dX8_takeRun_54 rfl (by decide) ?_
      refine gj_iand (pc' := 57) dX8_takeRun_56 rfl ?_
      rw [an31 (by omega)]
      refine gj_i2l (pc' := 58) dX8_takeRun_57 rfl (by have := Nat.mod_lt (B (s + j)) (show 32 > 0 by decide); omega) ?_
      refine gj_lor (pc' := 59) dX8_takeRun_58 rfl ?_
      refine gp_X8_42 (pc' := 62) dX8_takeRun_59 rfl (by first | rfl | assumption) rfl ?_
      refine gj_aload_n (pc' := 63) dX8_takeRun_62 rfl rfl ?_
      refine gj_aload_n (pc' := 64) dX8_takeRun_63 rfl rfl ?_
      refine gf_X8_46 (pc' := 67) dX8_takeRun_64 rfl (by first | rfl | assumption) rfl ?_
      rw [show (gul hp 2 7 _).1 2 6 = hp.1 2 6 from rfl, i8]
      refine gj_bipush (pc' := 69) dX8_takeRun_67 rfl (by decide) ?_
      refine gj_imul (pc' := 70) dX8_takeRun_69 rfl ?_
      refine gj_aload_n (pc' := 71) dX8_takeRun_70 rfl rfl ?_
      refine gf_X8_9 (pc' := 74) dX8_takeRun_71 rfl (by first | rfl | assumption) rfl ?_
      refine gj_aload_n (pc' := 75) dX8_takeRun_74 rfl rfl ?_
      refine gf_X8_26 (pc' := 78) dX8_takeRun_75 rfl (by first | rfl | assumption) rfl ?_
      rw [show (gul hp 2 7 _).1 2 4 = hp.1 2 4 from rfl, i4]
      refine gj_bald (pc' := 79) (j := s + j) (by first | rfl | assumption) (by omega) (by omega) (by decide) dX8_takeRun_78 rfl ?_
      rw [show (gul hp 2 7 _).1 3 = hp.1 3 from rfl, (hbj (by omega)).2, hsb]
      refine gj_bipush (pc' := 81) dX8_takeRun_79 rfl (by decide) ?_
      refine gj_isub (pc' := 82) dX8_takeRun_81 rfl ?_
      refine gj_iadd (pc' := 83) dX8_takeRun_82 rfl ?_
      refine gp_X8_46 (pc' := 86) dX8_takeRun_83 rfl (by first | rfl | assumption) rfl ?_
      refine gj_aload_n (pc' := 87) dX8_takeRun_86 rfl rfl ?_
      refine gj_dup (pc' := 88) dX8_takeRun_87 rfl rfl ?_
      refine gf_X8_26 (pc' := 91) dX8_takeRun_88 rfl (by first | rfl | assumption) rfl ?_
      rw [gui_s, up1_n (by decide), show (gul hp 2 7 _).1 2 4 = hp.1 2 4 from rfl, i4]
      refine gj_iconst (pc' := 92) dX8_takeRun_91 rfl ?_
      refine gj_iadd (pc' := 93) dX8_takeRun_92 rfl ?_
      refine gp_X8_26 (pc' := 96) dX8_takeRun_93 rfl (by first | rfl | assumption) rfl ?_
      refine gj_goto (pc' := 8) dX8_takeRun_96 (by decide) ?_
      refine gJ_wk (ih_j  _ (by omega) ?iv_2) ?ll_2
      case ll_2 =>
        repeat' (first | exact True.intro | with_reducible exact rfl | refine And.intro ?_ ?_ | refine vI ?_ | refine vL ?_)
        all_goals omega
      refine ⟨i1.tr (tpE.pul.tr ((tpE.put (by decide)).tr (tpE.put (by decide)))), ?_, ?_, ?_, i6.trans (tR_t (by omega) hso), fun hj => ?_, ?_⟩
      · rw [gui_s, up1_n (by decide), gui_s, up1_n (by decide)]; exact i3
      · rw [gui_s, up1_s]; omega
      · rw [gui_s, up1_n (by decide), gui_s, up1_n (by decide)]; exact i5
      · have w := i7 (by omega)
        have hlt := wdN_8 (fun i => B (s + i)) (i := j) (by omega)
        show up1 (hp.2.1 2) 7 _ 7 = _
        rw [up1_s, w, lsh5 hlt, lor5 hlt (Nat.mod_lt _ (by decide))]
        rfl
      · rw [gui_s, up1_n (by decide), gui_s, up1_s]
        show _ = ((whN (fun i => B (s + i)) j * 10 + (B (s + j) - 48) : Nat) : Int)
        omega
def CTk (h : gH) (B : Nat → Nat) (e p : Nat) : Prop := TB h B e ∧ p ≤ e ∧ h.1 2 3 = (tS B e p : Int) ∧ h.1 2 4 = (tEn B e p : Int) ∧ h.1 2 5 = (tSr B e p : Int) ∧ (tSr B e p = 1 → h.2.1 2 7 = (tWd B e p : Int)) ∧ (tSr B e p = 2 → h.1 2 6 = (tWh B e p : Int))
theorem tEn_in {B : Nat → Nat} {e p : Nat} (h : p ≤ e) : tS B e p ≤ tEn B e p ∧ tEn B e p ≤ e ∧ (p < e → p < tEn B e p) := by
  have hs := tS_in (B := B) h
  unfold tEn
  by_cases q : tSo B e p = 1 ∨ tSo B e p = 2
  · rw [if_pos q]
    have hlt : tS B e p < e := by
      rcases Nat.lt_or_ge (tS B e p) e with z | z
      · exact z
      · unfold tSo at q
        rw [if_neg (by omega)] at q
        omega
    have hso : soB (B (tS B e p)) = tSo B e p := by unfold tSo; rw [if_pos hlt]
    have h1 := (tR_in (B := B) (e := e) (s := tSo B e p) (p := tS B e p) (by omega)).1
    have h2 := tR_gt hlt hso
    omega
  · rw [if_neg q]
    omega
theorem s_step {h : gH} {B : Nat → Nat} {e p : Nat} (hB : TB h B e) (h4 : h.1 2 4 = (p : Int)) (hpe : p ≤ e) : gSp 3 yX8_step cX8_step 1 none [.ref 2] h (fun v h' => v = none ∧ tpE h h' ∧ CTk h' B e p) := by
  have he := hB.1
  have hin := tS_in (B := B) hpe
  refine gSp_of (by decide +kernel) (Nat.le_of_ble_eq_true rfl) ?_
  show gJ RX8 cX8_step 1 none _ 0 [some (.ref 2)] [] _ _
  refine gj_aload_n (pc' := 1) dX8_step_0 rfl rfl ?_
  refine gj_aload_n (pc' := 2) dX8_step_1 rfl rfl ?_
  refine gf_X8_26 (pc' := 5) dX8_step_2 rfl (by first | rfl | assumption) rfl ?_
  rw [h4]
  refine gp_X8_32 (pc' := 8) dX8_step_5 rfl (by first | rfl | assumption) rfl ?_
  refine gJ_wk (gJ_fH0 (L := fun j  => [some (.ref 2)]) (I := fun j  hp => tpE h hp ∧ hp.1 2 3 = ((p + j : Nat) : Int) ∧ tS B e p = tS B e (p + j)) (e - p) (fun j  hp hb_j iv_j ih_j => ?step_1) (0) (Nat.zero_le _)  _ ?iv0_1) ?ll0_1
  case ll0_1 =>
    repeat' (first | exact True.intro | with_reducible exact rfl | refine And.intro ?_ ?_ | refine vI ?_ | refine vL ?_)
    all_goals first | rfl | omega
  case iv0_1 =>
    exact ⟨tpE.put (by decide), by rw [gui_s, up1_s]; rfl, rfl⟩
  obtain ⟨i1, i3, i6⟩ := iv_j
  have hB2 := hB.to i1
  have hbj := fun z : p + j < e => hB2.2.2 (p + j) z
  refine gj_aload_n (pc' := 9) dX8_step_8 rfl rfl ?_
  refine gf_X8_32 (pc' := 12) dX8_step_9 rfl (by first | rfl | assumption) rfl ?_
  rw [i3]
  refine gj_aload_n (pc' := 13) dX8_step_12 rfl rfl ?_
  refine gf_X8_23 (pc' := 16) dX8_step_13 rfl (by first | rfl | assumption) rfl ?_
  rw [hB2.2.1]
  refine gj_icmp_ge (pc' := 19) (tgt := 46) dX8_step_16 (by decide) rfl (by omega) (fun c16 => ?_) (fun c16 => ?_)
  · have hS : tS B e p = p + j := by
      rw [i6]
      apply tS_f
      intro z
      first
      | omega
      | (have c := c30
         rw [z.2] at c
         exact c rfl)
    rw [← hS] at i3
    generalize hsv : tS B e p = sv at *
    have hbs := fun z : sv < e => hB2.2.2 sv z
    have hso : tSo B e p = if sv < e then soB (B sv) else 0 := by unfold tSo; rw [hsv]
    have hen : tEn B e p = if tSo B e p = 1 ∨ tSo B e p = 2 then tR B e (tSo B e p) sv else min (sv + 1) e := by unfold tEn; rw [hsv]
    have hln : tLn B e p = tEn B e p - sv := by unfold tLn; rw [hsv]
    have hsr : tSr B e p = if (tSo B e p = 1 ∧ 8 < tLn B e p) ∨ (tSo B e p = 2 ∧ 3 < tLn B e p) then 4 else tSo B e p := rfl
    have hwd : tWd B e p = wdN (fun i => B (sv + i)) (tLn B e p) := by unfold tWd; rw [hsv]
    have hwh : tWh B e p = whN (fun i => B (sv + i)) (tLn B e p) := by unfold tWh; rw [hsv]
    refine gj_aload_n (pc' := 47) dX8_step_46 rfl rfl ?_
    refine gj_aload_n (pc' := 48) dX8_step_47 rfl rfl ?_
    refine gf_X8_32 (pc' := 51) dX8_step_48 rfl (by first | rfl | assumption) rfl ?_
    rw [i3]
    refine gj_aload_n (pc' := 52) dX8_step_51 rfl rfl ?_
    refine gf_X8_23 (pc' := 55) dX8_step_52 rfl (by first | rfl | assumption) rfl ?_
    rw [hB2.2.1]
    refine gj_icmp_ge (pc' := 58) (tgt := 73) dX8_step_55 (by decide) rfl (by omega) (fun c55 => ?_) (fun c55 => ?_)
    · refine gj_iconst (pc' := 74) dX8_step_73 rfl ?_
      refine gJ_t ?_ (show (0 : Int) = ((tSo B e p : Nat) : Int) by rw [hso, if_neg (by omega)]; rfl)
      have hso4 : tSo B e p ≤ 4 := by
        rw [hso]
        unfold soB
        (repeat' split) <;> omega
      refine gp_X8_39 (pc' := 77) dX8_step_74 rfl (by first | rfl | assumption) rfl ?_
      refine gj_aload_n (pc' := 78) dX8_step_77 rfl rfl ?_
      refine gj_lconst (pc' := 79) dX8_step_78 rfl ?_
      show gJ _ _ _ _ _ _ _ (.long (zL 0) :: _) _ _
      refine gp_X8_42 (pc' := 82) dX8_step_79 rfl (by first | rfl | assumption) rfl ?_
      refine gj_aload_n (pc' := 83) dX8_step_82 rfl rfl ?_
      refine gj_iconst (pc' := 84) dX8_step_83 rfl ?_
      refine gp_X8_46 (pc' := 87) dX8_step_84 rfl (by first | rfl | assumption) rfl ?_
      refine gj_aload_n (pc' := 88) dX8_step_87 rfl rfl ?_
      refine gj_aload_n (pc' := 89) dX8_step_88 rfl rfl ?_
      refine gf_X8_32 (pc' := 92) dX8_step_89 rfl (by first | rfl | assumption) rfl ?_
      change gJ _ _ _ _ _ _ _ (.int (zI (hp.1 2 3)) :: _) _ _
      rw [i3]
      refine gj_iconst (pc' := 93) dX8_step_92 rfl ?_
      refine gj_iadd (pc' := 94) dX8_step_93 rfl ?_
      refine gj_aload_n (pc' := 95) dX8_step_94 rfl rfl ?_
      refine gf_X8_23 (pc' := 98) dX8_step_95 rfl (by first | rfl | assumption) rfl ?_
      change gJ _ _ _ _ _ _ _ (.int (zI (hp.1 2 2)) :: _) _ _
      rw [hB2.2.1]
      refine gj_mmin (pc' := 101) dX8_step_98 rfl wm_X8_17 (by decide) (by omega) (by omega) (Nat.le_of_ble_eq_true rfl) ?_
      refine gp_X8_26 (pc' := 104) dX8_step_101 rfl (by first | rfl | assumption) rfl ?_
      refine gj_aload_n (pc' := 105) dX8_step_104 rfl rfl ?_
      refine gf_X8_39 (pc' := 108) dX8_step_105 rfl (by first | rfl | assumption) rfl ?_
      change gJ _ _ _ _ _ _ _ (.int (zI ((tSo B e p : Nat) : Int)) :: _) _ _
      refine gj_iconst (pc' := 109) dX8_step_108 rfl ?_
      refine gj_icmp_eq (pc' := 112) (tgt := 120) dX8_step_109 (by decide) rfl (by omega) (fun c109 => ?_) (fun c109 => ?_)
      · refine gj_aload_n (pc' := 121) dX8_step_120 rfl rfl ?_
        have hq12 : tSo B e p = 1 ∨ tSo B e p = 2 := by omega
        have hsve : sv < e := by
          rcases Nat.lt_or_ge sv e with z | z
          · exact z
          · rw [if_neg (by omega)] at hso; omega
        have hsq : soB (B sv) = tSo B e p := by rw [hso, if_pos hsve]
        refine gc_X8_49 (pc' := 124) dX8_step_121 rfl (s_takeRun (B := B) (e := e) (s := sv) (q := tSo B e p) (hB2.to ((tpE.put (by decide)).tr (tpE.pul.tr ((tpE.put (by decide)).tr (tpE.put (by decide)))))) i3 rfl rfl rfl hsve hq12 hsq) rfl (by first | rfl | assumption) (by decide) rfl (Nat.le_of_ble_eq_true rfl) (fun v9 h9 q9 => ?_)
        obtain ⟨rfl, r1, r3, r4, r5, r6, r7⟩ := q9
        show gJ _ _ _ _ _ _ _ [] _ _
        refine gj_vret rfl dX8_step_124 ?_
        have hch : tpE h (gui (gui (gul (gui hp 2 5 ((tSo B e p : Nat) : Int)) 2 7 0) 2 6 0) 2 4 (min ((sv : Int) + 1) (e : Int))) := i1.tr ((tpE.put (by decide)).tr (tpE.pul.tr ((tpE.put (by decide)).tr (tpE.put (by decide)))))
        by_cases q : tSo B e p = 1 ∨ tSo B e p = 2
        · rw [if_pos q] at hen
          first
          | (exfalso; omega)
          | (refine ⟨rfl, hch.tr r1, hB.to (hch.tr r1), hpe, by rw [hsv]; exact r3, by rw [r4, hen], ?_, fun z => ?_, fun z => ?_⟩
             · rw [r5, hsr, hln, hen]
             · rw [hwd, hln, hen]
               refine r6 ?_
               rw [hsr] at z
               rw [hln, hen] at z
               split at z <;> omega
             · rw [hwh, hln, hen]
               exact r7)
        · rw [if_neg q] at hen
          rw [if_neg (by omega)] at hsr
          first
          | (exfalso; omega)
          | exact ⟨rfl, hch, hB.to hch, hpe, by rw [hsv]; exact i3, by rw [hen]; show min ((sv : Int) + 1) (e : Int) = _; omega, by rw [hsr]; rfl, fun z => by omega, fun z => by omega⟩
      · refine gj_aload_n (pc' := 113) dX8_step_112 rfl rfl ?_
        refine gf_X8_39 (pc' := 116) dX8_step_113 rfl (by first | rfl | assumption) rfl ?_
        change gJ _ _ _ _ _ _ _ (.int (zI ((tSo B e p : Nat) : Int)) :: _) _ _
        refine gj_iconst (pc' := 117) dX8_step_116 rfl ?_
        refine gj_icmp_ne (pc' := 120) (tgt := 124) dX8_step_117 (by decide) rfl (by omega) (fun c117 => ?_) (fun c117 => ?_)
        · refine gj_vret rfl dX8_step_124 ?_
          have hch : tpE h (gui (gui (gul (gui hp 2 5 ((tSo B e p : Nat) : Int)) 2 7 0) 2 6 0) 2 4 (min ((sv : Int) + 1) (e : Int))) := i1.tr ((tpE.put (by decide)).tr (tpE.pul.tr ((tpE.put (by decide)).tr (tpE.put (by decide)))))
          by_cases q : tSo B e p = 1 ∨ tSo B e p = 2
          · rw [if_pos q] at hen
            first
            | (exfalso; omega)
            | (refine ⟨rfl, hch.tr r1, hB.to (hch.tr r1), hpe, by rw [hsv]; exact r3, by rw [r4, hen], ?_, fun z => ?_, fun z => ?_⟩
               · rw [r5, hsr, hln, hen]
               · rw [hwd, hln, hen]
                 refine r6 ?_
                 rw [hsr] at z
                 rw [hln, hen] at z
                 split at z <;> omega
               · rw [hwh, hln, hen]
                 exact r7)
          · rw [if_neg q] at hen
            rw [if_neg (by omega)] at hsr
            first
            | (exfalso; omega)
            | exact ⟨rfl, hch, hB.to hch, hpe, by rw [hsv]; exact i3, by rw [hen]; show min ((sv : Int) + 1) (e : Int) = _; omega, by rw [hsr]; rfl, fun z => by omega, fun z => by omega⟩
        · refine gj_aload_n (pc' := 121) dX8_step_120 rfl rfl ?_
          have hq12 : tSo B e p = 1 ∨ tSo B e p = 2 := by omega
          have hsve : sv < e := by
            rcases Nat.lt_or_ge sv e with z | z
            · exact z
            · rw [if_neg (by omega)] at hso; omega
          have hsq : soB (B sv) = tSo B e p := by rw [hso, if_pos hsve]
          refine gc_X8_49 (pc' := 124) dX8_step_121 rfl (s_takeRun (B := B) (e := e) (s := sv) (q := tSo B e p) (hB2.to ((tpE.put (by decide)).tr (tpE.pul.tr ((tpE.put (by decide)).tr (tpE.put (by decide)))))) i3 rfl rfl rfl hsve hq12 hsq) rfl (by first | rfl | assumption) (by decide) rfl (Nat.le_of_ble_eq_true rfl) (fun v9 h9 q9 => ?_)
          obtain ⟨rfl, r1, r3, r4, r5, r6, r7⟩ := q9
          show gJ _ _ _ _ _ _ _ [] _ _
          refine gj_vret rfl dX8_step_124 ?_
          have hch : tpE h (gui (gui (gul (gui hp 2 5 ((tSo B e p : Nat) : Int)) 2 7 0) 2 6 0) 2 4 (min ((sv : Int) + 1) (e : Int))) := i1.tr ((tpE.put (by decide)).tr (tpE.pul.tr ((tpE.put (by decide)).tr (tpE.put (by decide)))))
          by_cases q : tSo B e p = 1 ∨ tSo B e p = 2
          · rw [if_pos q] at hen
            first
            | (exfalso; omega)
            | (refine ⟨rfl, hch.tr r1, hB.to (hch.tr r1), hpe, by rw [hsv]; exact r3, by rw [r4, hen], ?_, fun z => ?_, fun z => ?_⟩
               · rw [r5, hsr, hln, hen]
               · rw [hwd, hln, hen]
                 refine r6 ?_
                 rw [hsr] at z
                 rw [hln, hen] at z
                 split at z <;> omega
               · rw [hwh, hln, hen]
                 exact r7)
          · rw [if_neg q] at hen
            rw [if_neg (by omega)] at hsr
            first
            | (exfalso; omega)
            | exact ⟨rfl, hch, hB.to hch, hpe, by rw [hsv]; exact i3, by rw [hen]; show min ((sv : Int) + 1) (e : Int) = _; omega, by rw [hsr]; rfl, fun z => by omega, fun z => by omega⟩
    · refine gj_aload_n (pc' := 59) dX8_step_58 rfl rfl ?_
      refine gf_X8_9 (pc' := 62) dX8_step_59 rfl (by first | rfl | assumption) rfl ?_
      refine gj_aload_n (pc' := 63) dX8_step_62 rfl rfl ?_
      refine gf_X8_32 (pc' := 66) dX8_step_63 rfl (by first | rfl | assumption) rfl ?_
      rw [i3]
      refine gj_bald (pc' := 67) (j := sv) (by first | rfl | assumption) (by omega) (by omega) (by decide) dX8_step_66 rfl ?_
      rw [(hbs (by omega)).2]
      refine gr_X8_35 (pc' := 70) dX8_step_67 rfl (s_sortOf (hbs (by omega)).1) rfl (by decide) rfl (Nat.le_of_ble_eq_true rfl) ?_
      rw [show soB (B sv) = tSo B e p by rw [hso, if_pos (by omega)]]
      refine gj_goto (pc' := 74) dX8_step_70 (by decide) ?_
      have hso4 : tSo B e p ≤ 4 := by
        rw [hso]
        unfold soB
        (repeat' split) <;> omega
      refine gp_X8_39 (pc' := 77) dX8_step_74 rfl (by first | rfl | assumption) rfl ?_
      refine gj_aload_n (pc' := 78) dX8_step_77 rfl rfl ?_
      refine gj_lconst (pc' := 79) dX8_step_78 rfl ?_
      show gJ _ _ _ _ _ _ _ (.long (zL 0) :: _) _ _
      refine gp_X8_42 (pc' := 82) dX8_step_79 rfl (by first | rfl | assumption) rfl ?_
      refine gj_aload_n (pc' := 83) dX8_step_82 rfl rfl ?_
      refine gj_iconst (pc' := 84) dX8_step_83 rfl ?_
      refine gp_X8_46 (pc' := 87) dX8_step_84 rfl (by first | rfl | assumption) rfl ?_
      refine gj_aload_n (pc' := 88) dX8_step_87 rfl rfl ?_
      refine gj_aload_n (pc' := 89) dX8_step_88 rfl rfl ?_
      refine gf_X8_32 (pc' := 92) dX8_step_89 rfl (by first | rfl | assumption) rfl ?_
      change gJ _ _ _ _ _ _ _ (.int (zI (hp.1 2 3)) :: _) _ _
      rw [i3]
      refine gj_iconst (pc' := 93) dX8_step_92 rfl ?_
      refine gj_iadd (pc' := 94) dX8_step_93 rfl ?_
      refine gj_aload_n (pc' := 95) dX8_step_94 rfl rfl ?_
      refine gf_X8_23 (pc' := 98) dX8_step_95 rfl (by first | rfl | assumption) rfl ?_
      change gJ _ _ _ _ _ _ _ (.int (zI (hp.1 2 2)) :: _) _ _
      rw [hB2.2.1]
      refine gj_mmin (pc' := 101) dX8_step_98 rfl wm_X8_17 (by decide) (by omega) (by omega) (Nat.le_of_ble_eq_true rfl) ?_
      refine gp_X8_26 (pc' := 104) dX8_step_101 rfl (by first | rfl | assumption) rfl ?_
      refine gj_aload_n (pc' := 105) dX8_step_104 rfl rfl ?_
      refine gf_X8_39 (pc' := 108) dX8_step_105 rfl (by first | rfl | assumption) rfl ?_
      change gJ _ _ _ _ _ _ _ (.int (zI ((tSo B e p : Nat) : Int)) :: _) _ _
      refine gj_iconst (pc' := 109) dX8_step_108 rfl ?_
      refine gj_icmp_eq (pc' := 112) (tgt := 120) dX8_step_109 (by decide) rfl (by omega) (fun c109 => ?_) (fun c109 => ?_)
      · refine gj_aload_n (pc' := 121) dX8_step_120 rfl rfl ?_
        have hq12 : tSo B e p = 1 ∨ tSo B e p = 2 := by omega
        have hsve : sv < e := by
          rcases Nat.lt_or_ge sv e with z | z
          · exact z
          · rw [if_neg (by omega)] at hso; omega
        have hsq : soB (B sv) = tSo B e p := by rw [hso, if_pos hsve]
        refine gc_X8_49 (pc' := 124) dX8_step_121 rfl (s_takeRun (B := B) (e := e) (s := sv) (q := tSo B e p) (hB2.to ((tpE.put (by decide)).tr (tpE.pul.tr ((tpE.put (by decide)).tr (tpE.put (by decide)))))) i3 rfl rfl rfl hsve hq12 hsq) rfl (by first | rfl | assumption) (by decide) rfl (Nat.le_of_ble_eq_true rfl) (fun v9 h9 q9 => ?_)
        obtain ⟨rfl, r1, r3, r4, r5, r6, r7⟩ := q9
        show gJ _ _ _ _ _ _ _ [] _ _
        refine gj_vret rfl dX8_step_124 ?_
        have hch : tpE h (gui (gui (gul (gui hp 2 5 ((tSo B e p : Nat) : Int)) 2 7 0) 2 6 0) 2 4 (min ((sv : Int) + 1) (e : Int))) := i1.tr ((tpE.put (by decide)).tr (tpE.pul.tr ((tpE.put (by decide)).tr (tpE.put (by decide)))))
        by_cases q : tSo B e p = 1 ∨ tSo B e p = 2
        · rw [if_pos q] at hen
          first
          | (exfalso; omega)
          | (refine ⟨rfl, hch.tr r1, hB.to (hch.tr r1), hpe, by rw [hsv]; exact r3, by rw [r4, hen], ?_, fun z => ?_, fun z => ?_⟩
             · rw [r5, hsr, hln, hen]
             · rw [hwd, hln, hen]
               refine r6 ?_
               rw [hsr] at z
               rw [hln, hen] at z
               split at z <;> omega
             · rw [hwh, hln, hen]
               exact r7)
        · rw [if_neg q] at hen
          rw [if_neg (by omega)] at hsr
          first
          | (exfalso; omega)
          | exact ⟨rfl, hch, hB.to hch, hpe, by rw [hsv]; exact i3, by rw [hen]; show min ((sv : Int) + 1) (e : Int) = _; omega, by rw [hsr]; rfl, fun z => by omega, fun z => by omega⟩
      · refine gj_aload_n (pc' := 113) dX8_step_112 rfl rfl ?_
        refine gf_X8_39 (pc' := 116) dX8_step_113 rfl (by first | rfl | assumption) rfl ?_
        change gJ _ _ _ _ _ _ _ (.int (zI ((tSo B e p : Nat) : Int)) :: _) _ _
        refine gj_iconst (pc' := 117) dX8_step_116 rfl ?_
        refine gj_icmp_ne (pc' := 120) (tgt := 124) dX8_step_117 (by decide) rfl (by omega) (fun c117 => ?_) (fun c117 => ?_)
        · refine gj_vret rfl dX8_step_124 ?_
          have hch : tpE h (gui (gui (gul (gui hp 2 5 ((tSo B e p : Nat) : Int)) 2 7 0) 2 6 0) 2 4 (min ((sv : Int) + 1) (e : Int))) := i1.tr ((tpE.put (by decide)).tr (tpE.pul.tr ((tpE.put (by decide)).tr (tpE.put (by decide)))))
          by_cases q : tSo B e p = 1 ∨ tSo B e p = 2
          · rw [if_pos q] at hen
            first
            | (exfalso; omega)
            | (refine ⟨rfl, hch.tr r1, hB.to (hch.tr r1), hpe, by rw [hsv]; exact r3, by rw [r4, hen], ?_, fun z => ?_, fun z => ?_⟩
               · rw [r5, hsr, hln, hen]
               · rw [hwd, hln, hen]
                 refine r6 ?_
                 rw [hsr] at z
                 rw [hln, hen] at z
                 split at z <;> omega
               · rw [hwh, hln, hen]
                 exact r7)
          · rw [if_neg q] at hen
            rw [if_neg (by omega)] at hsr
            first
            | (exfalso; omega)
            | exact ⟨rfl, hch, hB.to hch, hpe, by rw [hsv]; exact i3, by rw [hen]; show min ((sv : Int) + 1) (e : Int) = _; omega, by rw [hsr]; rfl, fun z => by omega, fun z => by omega⟩
        · refine gj_aload_n (pc' := 121) dX8_step_120 rfl rfl ?_
          have hq12 : tSo B e p = 1 ∨ tSo B e p = 2 := by omega
          have hsve : sv < e := by
            rcases Nat.lt_or_ge sv e with z | z
            · exact z
            · rw [if_neg (by omega)] at hso; omega
          have hsq : soB (B sv) = tSo B e p := by rw [hso, if_pos hsve]
          refine gc_X8_49 (pc' := 124) dX8_step_121 rfl (s_takeRun (B := B) (e := e) (s := sv) (q := tSo B e p) (hB2.to ((tpE.put (by decide)).tr (tpE.pul.tr ((tpE.put (by decide)).tr (tpE.put (by decide)))))) i3 rfl rfl rfl hsve hq12 hsq) rfl (by first | rfl | assumption) (by decide) rfl (Nat.le_of_ble_eq_true rfl) (fun v9 h9 q9 => ?_)
          obtain ⟨rfl, r1, r3, r4, r5, r6, r7⟩ := q9
          show gJ _ _ _ _ _ _ _ [] _ _
          refine gj_vret rfl dX8_step_124 ?_
          have hch : tpE h (gui (gui (gul (gui hp 2 5 ((tSo B e p : Nat) : Int)) 2 7 0) 2 6 0) 2 4 (min ((sv : Int) + 1) (e : Int))) := i1.tr ((tpE.put (by decide)).tr (tpE.pul.tr ((tpE.put (by decide)).tr (tpE.put (by decide)))))
          by_cases q : tSo B e p = 1 ∨ tSo B e p = 2
          · rw [if_pos q] at hen
            first
            | (exfalso; omega)
            | (refine ⟨rfl, hch.tr r1, hB.to (hch.tr r1), hpe, by rw [hsv]; exact r3, by rw [r4, hen], ?_, fun z => ?_, fun z => ?_⟩
               · rw [r5, hsr, hln, hen]
               · rw [hwd, hln, hen]
                 refine r6 ?_
                 rw [hsr] at z
                 rw [hln, hen] at z
                 split at z <;> omega
               · rw [hwh, hln, hen]
                 exact r7)
          · rw [if_neg q] at hen
            rw [if_neg (by omega)] at hsr
            first
            | (exfalso; omega)
            | exact ⟨rfl, hch, hB.to hch, hpe, by rw [hsv]; exact i3, by rw [hen]; show min ((sv : Int) + 1) (e : Int) = _; omega, by rw [hsr]; rfl, fun z => by omega, fun z => by omega⟩
  · refine gj_aload_n (pc' := 20) dX8_step_19 rfl rfl ?_
    refine gf_X8_9 (pc' := 23) dX8_step_20 rfl (by first | rfl | assumption) rfl ?_
    refine gj_aload_n (pc' := 24) dX8_step_23 rfl rfl ?_
    refine gf_X8_32 (pc' := 27) dX8_step_24 rfl (by first | rfl | assumption) rfl ?_
    rw [i3]
    refine gj_bald (pc' := 28) (j := p + j) (by first | rfl | assumption) (by omega) (by omega) (by decide) dX8_step_27 rfl ?_
    rw [(hbj (by omega)).2]
    refine gj_bipush (pc' := 30) dX8_step_28 rfl (by decide) ?_
    refine gj_icmp_ne (pc' := 33) (tgt := 46) dX8_step_30 (by decide) rfl (by have := sb8_in (hbj (by omega)).1; omega) (fun c30 => ?_) (fun c30 => ?_)
    · have hS : tS B e p = p + j := by
        rw [i6]
        apply tS_f
        intro z
        first
        | omega
        | (have c := c30
           rw [z.2] at c
           exact c rfl)
      rw [← hS] at i3
      generalize hsv : tS B e p = sv at *
      have hbs := fun z : sv < e => hB2.2.2 sv z
      have hso : tSo B e p = if sv < e then soB (B sv) else 0 := by unfold tSo; rw [hsv]
      have hen : tEn B e p = if tSo B e p = 1 ∨ tSo B e p = 2 then tR B e (tSo B e p) sv else min (sv + 1) e := by unfold tEn; rw [hsv]
      have hln : tLn B e p = tEn B e p - sv := by unfold tLn; rw [hsv]
      have hsr : tSr B e p = if (tSo B e p = 1 ∧ 8 < tLn B e p) ∨ (tSo B e p = 2 ∧ 3 < tLn B e p) then 4 else tSo B e p := rfl
      have hwd : tWd B e p = wdN (fun i => B (sv + i)) (tLn B e p) := by unfold tWd; rw [hsv]
      have hwh : tWh B e p = whN (fun i => B (sv + i)) (tLn B e p) := by unfold tWh; rw [hsv]
      refine gj_aload_n (pc' := 47) dX8_step_46 rfl rfl ?_
      refine gj_aload_n (pc' := 48) dX8_step_47 rfl rfl ?_
      refine gf_X8_32 (pc' := 51) dX8_step_48 rfl (by first | rfl | assumption) rfl ?_
      rw [i3]
      refine gj_aload_n (pc' := 52) dX8_step_51 rfl rfl ?_
      refine gf_X8_23 (pc' := 55) dX8_step_52 rfl (by first | rfl | assumption) rfl ?_
      rw [hB2.2.1]
      refine gj_icmp_ge (pc' := 58) (tgt := 73) dX8_step_55 (by decide) rfl (by omega) (fun c55 => ?_) (fun c55 => ?_)
      · refine gj_iconst (pc' := 74) dX8_step_73 rfl ?_
        refine gJ_t ?_ (show (0 : Int) = ((tSo B e p : Nat) : Int) by rw [hso, if_neg (by omega)]; rfl)
        have hso4 : tSo B e p ≤ 4 := by
          rw [hso]
          unfold soB
          (repeat' split) <;> omega
        refine gp_X8_39 (pc' := 77) dX8_step_74 rfl (by first | rfl | assumption) rfl ?_
        refine gj_aload_n (pc' := 78) dX8_step_77 rfl rfl ?_
        refine gj_lconst (pc' := 79) dX8_step_78 rfl ?_
        show gJ _ _ _ _ _ _ _ (.long (zL 0) :: _) _ _
        refine gp_X8_42 (pc' := 82) dX8_step_79 rfl (by first | rfl | assumption) rfl ?_
        refine gj_aload_n (pc' := 83) dX8_step_82 rfl rfl ?_
        refine gj_iconst (pc' := 84) dX8_step_83 rfl ?_
        refine gp_X8_46 (pc' := 87) dX8_step_84 rfl (by first | rfl | assumption) rfl ?_
        refine gj_aload_n (pc' := 88) dX8_step_87 rfl rfl ?_
        refine gj_aload_n (pc' := 89) dX8_step_88 rfl rfl ?_
        refine gf_X8_32 (pc' := 92) dX8_step_89 rfl (by first | rfl | assumption) rfl ?_
        change gJ _ _ _ _ _ _ _ (.int (zI (hp.1 2 3)) :: _) _ _
        rw [i3]
        refine gj_iconst (pc' := 93) dX8_step_92 rfl ?_
        refine gj_iadd (pc' := 94) dX8_step_93 rfl ?_
        refine gj_aload_n (pc' := 95) dX8_step_94 rfl rfl ?_
        refine gf_X8_23 (pc' := 98) dX8_step_95 rfl (by first | rfl | assumption) rfl ?_
        change gJ _ _ _ _ _ _ _ (.int (zI (hp.1 2 2)) :: _) _ _
        rw [hB2.2.1]
        refine gj_mmin (pc' := 101) dX8_step_98 rfl wm_X8_17 (by decide) (by omega) (by omega) (Nat.le_of_ble_eq_true rfl) ?_
        refine gp_X8_26 (pc' := 104) dX8_step_101 rfl (by first | rfl | assumption) rfl ?_
        refine gj_aload_n (pc' := 105) dX8_step_104 rfl rfl ?_
        refine gf_X8_39 (pc' := 108) dX8_step_105 rfl (by first | rfl | assumption) rfl ?_
        change gJ _ _ _ _ _ _ _ (.int (zI ((tSo B e p : Nat) : Int)) :: _) _ _
        refine gj_iconst (pc' := 109) dX8_step_108 rfl ?_
        refine gj_icmp_eq (pc' := 112) (tgt := 120) dX8_step_109 (by decide) rfl (by omega) (fun c109 => ?_) (fun c109 => ?_)
        · refine gj_aload_n (pc' := 121) dX8_step_120 rfl rfl ?_
          have hq12 : tSo B e p = 1 ∨ tSo B e p = 2 := by omega
          have hsve : sv < e := by
            rcases Nat.lt_or_ge sv e with z | z
            · exact z
            · rw [if_neg (by omega)] at hso; omega
          have hsq : soB (B sv) = tSo B e p := by rw [hso, if_pos hsve]
          refine gc_X8_49 (pc' := 124) dX8_step_121 rfl (s_takeRun (B := B) (e := e) (s := sv) (q := tSo B e p) (hB2.to ((tpE.put (by decide)).tr (tpE.pul.tr ((tpE.put (by decide)).tr (tpE.put (by decide)))))) i3 rfl rfl rfl hsve hq12 hsq) rfl (by first | rfl | assumption) (by decide) rfl (Nat.le_of_ble_eq_true rfl) (fun v9 h9 q9 => ?_)
          obtain ⟨rfl, r1, r3, r4, r5, r6, r7⟩ := q9
          show gJ _ _ _ _ _ _ _ [] _ _
          refine gj_vret rfl dX8_step_124 ?_
          have hch : tpE h (gui (gui (gul (gui hp 2 5 ((tSo B e p : Nat) : Int)) 2 7 0) 2 6 0) 2 4 (min ((sv : Int) + 1) (e : Int))) := i1.tr ((tpE.put (by decide)).tr (tpE.pul.tr ((tpE.put (by decide)).tr (tpE.put (by decide)))))
          by_cases q : tSo B e p = 1 ∨ tSo B e p = 2
          · rw [if_pos q] at hen
            first
            | (exfalso; omega)
            | (refine ⟨rfl, hch.tr r1, hB.to (hch.tr r1), hpe, by rw [hsv]; exact r3, by rw [r4, hen], ?_, fun z => ?_, fun z => ?_⟩
               · rw [r5, hsr, hln, hen]
               · rw [hwd, hln, hen]
                 refine r6 ?_
                 rw [hsr] at z
                 rw [hln, hen] at z
                 split at z <;> omega
               · rw [hwh, hln, hen]
                 exact r7)
          · rw [if_neg q] at hen
            rw [if_neg (by omega)] at hsr
            first
            | (exfalso; omega)
            | exact ⟨rfl, hch, hB.to hch, hpe, by rw [hsv]; exact i3, by rw [hen]; show min ((sv : Int) + 1) (e : Int) = _; omega, by rw [hsr]; rfl, fun z => by omega, fun z => by omega⟩
        · refine gj_aload_n (pc' := 113) dX8_step_112 rfl rfl ?_
          refine gf_X8_39 (pc' := 116) dX8_step_113 rfl (by first | rfl | assumption) rfl ?_
          change gJ _ _ _ _ _ _ _ (.int (zI ((tSo B e p : Nat) : Int)) :: _) _ _
          refine gj_iconst (pc' := 117) dX8_step_116 rfl ?_
          refine gj_icmp_ne (pc' := 120) (tgt := 124) dX8_step_117 (by decide) rfl (by omega) (fun c117 => ?_) (fun c117 => ?_)
          · refine gj_vret rfl dX8_step_124 ?_
            have hch : tpE h (gui (gui (gul (gui hp 2 5 ((tSo B e p : Nat) : Int)) 2 7 0) 2 6 0) 2 4 (min ((sv : Int) + 1) (e : Int))) := i1.tr ((tpE.put (by decide)).tr (tpE.pul.tr ((tpE.put (by decide)).tr (tpE.put (by decide)))))
            by_cases q : tSo B e p = 1 ∨ tSo B e p = 2
            · rw [if_pos q] at hen
              first
              | (exfalso; omega)
              | (refine ⟨rfl, hch.tr r1, hB.to (hch.tr r1), hpe, by rw [hsv]; exact r3, by rw [r4, hen], ?_, fun z => ?_, fun z => ?_⟩
                 · rw [r5, hsr, hln, hen]
                 · rw [hwd, hln, hen]
                   refine r6 ?_
                   rw [hsr] at z
                   rw [hln, hen] at z
                   split at z <;> omega
                 · rw [hwh, hln, hen]
                   exact r7)
            · rw [if_neg q] at hen
              rw [if_neg (by omega)] at hsr
              first
              | (exfalso; omega)
              | exact ⟨rfl, hch, hB.to hch, hpe, by rw [hsv]; exact i3, by rw [hen]; show min ((sv : Int) + 1) (e : Int) = _; omega, by rw [hsr]; rfl, fun z => by omega, fun z => by omega⟩
          · refine gj_aload_n (pc' := 121) dX8_step_120 rfl rfl ?_
            have hq12 : tSo B e p = 1 ∨ tSo B e p = 2 := by omega
            have hsve : sv < e := by
              rcases Nat.lt_or_ge sv e with z | z
              · exact z
              · rw [if_neg (by omega)] at hso; omega
            have hsq : soB (B sv) = tSo B e p := by rw [hso, if_pos hsve]
            refine gc_X8_49 (pc' := 124) dX8_step_121 rfl (s_takeRun (B := B) (e := e) (s := sv) (q := tSo B e p) (hB2.to ((tpE.put (by decide)).tr (tpE.pul.tr ((tpE.put (by decide)).tr (tpE.put (by decide)))))) i3 rfl rfl rfl hsve hq12 hsq) rfl (by first | rfl | assumption) (by decide) rfl (Nat.le_of_ble_eq_true rfl) (fun v9 h9 q9 => ?_)
            obtain ⟨rfl, r1, r3, r4, r5, r6, r7⟩ := q9
            show gJ _ _ _ _ _ _ _ [] _ _
            refine gj_vret rfl dX8_step_124 ?_
            have hch : tpE h (gui (gui (gul (gui hp 2 5 ((tSo B e p : Nat) : Int)) 2 7 0) 2 6 0) 2 4 (min ((sv : Int) + 1) (e : Int))) := i1.tr ((tpE.put (by decide)).tr (tpE.pul.tr ((tpE.put (by decide)).tr (tpE.put (by decide)))))
            by_cases q : tSo B e p = 1 ∨ tSo B e p = 2
            · rw [if_pos q] at hen
              first
              | (exfalso; omega)
              | (refine ⟨rfl, hch.tr r1, hB.to (hch.tr r1), hpe, by rw [hsv]; exact r3, by rw [r4, hen], ?_, fun z => ?_, fun z => ?_⟩
                 · rw [r5, hsr, hln, hen]
                 · rw [hwd, hln, hen]
                   refine r6 ?_
                   rw [hsr] at z
                   rw [hln, hen] at z
                   split at z <;> omega
                 · rw [hwh, hln, hen]
                   exact r7)
            · rw [if_neg q] at hen
              rw [if_neg (by omega)] at hsr
              first
              | (exfalso; omega)
              | exact ⟨rfl, hch, hB.to hch, hpe, by rw [hsv]; exact i3, by rw [hen]; show min ((sv : Int) + 1) (e : Int) = _; omega, by rw [hsr]; rfl, fun z => by omega, fun z => by omega⟩
      · refine gj_aload_n (pc' := 59) dX8_step_58 rfl rfl ?_
        refine gf_X8_9 (pc' := 62) dX8_step_59 rfl (by first | rfl | assumption) rfl ?_
        refine gj_aload_n (pc' := 63) dX8_step_62 rfl rfl ?_
        refine gf_X8_32 (pc' := 66) dX8_step_63 rfl (by first | rfl | assumption) rfl ?_
        rw [i3]
        refine gj_bald (pc' := 67) (j := sv) (by first | rfl | assumption) (by omega) (by omega) (by decide) dX8_step_66 rfl ?_
        rw [(hbs (by omega)).2]
        refine gr_X8_35 (pc' := 70) dX8_step_67 rfl (s_sortOf (hbs (by omega)).1) rfl (by decide) rfl (Nat.le_of_ble_eq_true rfl) ?_
        rw [show soB (B sv) = tSo B e p by rw [hso, if_pos (by omega)]]
        refine gj_goto (pc' := 74) dX8_step_70 (by decide) ?_
        have hso4 : tSo B e p ≤ 4 := by
          rw [hso]
          unfold soB
          (repeat' split) <;> omega
        refine gp_X8_39 (pc' := 77) dX8_step_74 rfl (by first | rfl | assumption) rfl ?_
        refine gj_aload_n (pc' := 78) dX8_step_77 rfl rfl ?_
        refine gj_lconst (pc' := 79) dX8_step_78 rfl ?_
        show gJ _ _ _ _ _ _ _ (.long (zL 0) :: _) _ _
        refine gp_X8_42 (pc' := 82) dX8_step_79 rfl (by first | rfl | assumption) rfl ?_
        refine gj_aload_n (pc' := 83) dX8_step_82 rfl rfl ?_
        refine gj_iconst (pc' := 84) dX8_step_83 rfl ?_
        refine gp_X8_46 (pc' := 87) dX8_step_84 rfl (by first | rfl | assumption) rfl ?_
        refine gj_aload_n (pc' := 88) dX8_step_87 rfl rfl ?_
        refine gj_aload_n (pc' := 89) dX8_step_88 rfl rfl ?_
        refine gf_X8_32 (pc' := 92) dX8_step_89 rfl (by first | rfl | assumption) rfl ?_
        change gJ _ _ _ _ _ _ _ (.int (zI (hp.1 2 3)) :: _) _ _
        rw [i3]
        refine gj_iconst (pc' := 93) dX8_step_92 rfl ?_
        refine gj_iadd (pc' := 94) dX8_step_93 rfl ?_
        refine gj_aload_n (pc' := 95) dX8_step_94 rfl rfl ?_
        refine gf_X8_23 (pc' := 98) dX8_step_95 rfl (by first | rfl | assumption) rfl ?_
        change gJ _ _ _ _ _ _ _ (.int (zI (hp.1 2 2)) :: _) _ _
        rw [hB2.2.1]
        refine gj_mmin (pc' := 101) dX8_step_98 rfl wm_X8_17 (by decide) (by omega) (by omega) (Nat.le_of_ble_eq_true rfl) ?_
        refine gp_X8_26 (pc' := 104) dX8_step_101 rfl (by first | rfl | assumption) rfl ?_
        refine gj_aload_n (pc' := 105) dX8_step_104 rfl rfl ?_
        refine gf_X8_39 (pc' := 108) dX8_step_105 rfl (by first | rfl | assumption) rfl ?_
        change gJ _ _ _ _ _ _ _ (.int (zI ((tSo B e p : Nat) : Int)) :: _) _ _
        refine gj_iconst (pc' := 109) dX8_step_108 rfl ?_
        refine gj_icmp_eq (pc' := 112) (tgt := 120) dX8_step_109 (by decide) rfl (by omega) (fun c109 => ?_) (fun c109 => ?_)
        · refine gj_aload_n (pc' := 121) dX8_step_120 rfl rfl ?_
          have hq12 : tSo B e p = 1 ∨ tSo B e p = 2 := by omega
          have hsve : sv < e := by
            rcases Nat.lt_or_ge sv e with z | z
            · exact z
            · rw [if_neg (by omega)] at hso; omega
          have hsq : soB (B sv) = tSo B e p := by rw [hso, if_pos hsve]
          refine gc_X8_49 (pc' := 124) dX8_step_121 rfl (s_takeRun (B := B) (e := e) (s := sv) (q := tSo B e p) (hB2.to ((tpE.put (by decide)).tr (tpE.pul.tr ((tpE.put (by decide)).tr (tpE.put (by decide)))))) i3 rfl rfl rfl hsve hq12 hsq) rfl (by first | rfl | assumption) (by decide) rfl (Nat.le_of_ble_eq_true rfl) (fun v9 h9 q9 => ?_)
          obtain ⟨rfl, r1, r3, r4, r5, r6, r7⟩ := q9
          show gJ _ _ _ _ _ _ _ [] _ _
          refine gj_vret rfl dX8_step_124 ?_
          have hch : tpE h (gui (gui (gul (gui hp 2 5 ((tSo B e p : Nat) : Int)) 2 7 0) 2 6 0) 2 4 (min ((sv : Int) + 1) (e : Int))) := i1.tr ((tpE.put (by decide)).tr (tpE.pul.tr ((tpE.put (by decide)).tr (tpE.put (by decide)))))
          by_cases q : tSo B e p = 1 ∨ tSo B e p = 2
          · rw [if_pos q] at hen
            first
            | (exfalso; omega)
            | (refine ⟨rfl, hch.tr r1, hB.to (hch.tr r1), hpe, by rw [hsv]; exact r3, by rw [r4, hen], ?_, fun z => ?_, fun z => ?_⟩
               · rw [r5, hsr, hln, hen]
               · rw [hwd, hln, hen]
                 refine r6 ?_
                 rw [hsr] at z
                 rw [hln, hen] at z
                 split at z <;> omega
               · rw [hwh, hln, hen]
                 exact r7)
          · rw [if_neg q] at hen
            rw [if_neg (by omega)] at hsr
            first
            | (exfalso; omega)
            | exact ⟨rfl, hch, hB.to hch, hpe, by rw [hsv]; exact i3, by rw [hen]; show min ((sv : Int) + 1) (e : Int) = _; omega, by rw [hsr]; rfl, fun z => by omega, fun z => by omega⟩
        · refine gj_aload_n (pc' := 113) dX8_step_112 rfl rfl ?_
          refine gf_X8_39 (pc' := 116) dX8_step_113 rfl (by first | rfl | assumption) rfl ?_
          change gJ _ _ _ _ _ _ _ (.int (zI ((tSo B e p : Nat) : Int)) :: _) _ _
          refine gj_iconst (pc' := 117) dX8_step_116 rfl ?_
          refine gj_icmp_ne (pc' := 120) (tgt := 124) dX8_step_117 (by decide) rfl (by omega) (fun c117 => ?_) (fun c117 => ?_)
          · refine gj_vret rfl dX8_step_124 ?_
            have hch : tpE h (gui (gui (gul (gui hp 2 5 ((tSo B e p : Nat) : Int)) 2 7 0) 2 6 0) 2 4 (min ((sv : Int) + 1) (e : Int))) := i1.tr ((tpE.put (by decide)).tr (tpE.pul.tr ((tpE.put (by decide)).tr (tpE.put (by decide)))))
            by_cases q : tSo B e p = 1 ∨ tSo B e p = 2
            · rw [if_pos q] at hen
              first
              | (exfalso; omega)
              | (refine ⟨rfl, hch.tr r1, hB.to (hch.tr r1), hpe, by rw [hsv]; exact r3, by rw [r4, hen], ?_, fun z => ?_, fun z => ?_⟩
                 · rw [r5, hsr, hln, hen]
                 · rw [hwd, hln, hen]
                   refine r6 ?_
                   rw [hsr] at z
                   rw [hln, hen] at z
                   split at z <;> omega
                 · rw [hwh, hln, hen]
                   exact r7)
            · rw [if_neg q] at hen
              rw [if_neg (by omega)] at hsr
              first
              | (exfalso; omega)
              | exact ⟨rfl, hch, hB.to hch, hpe, by rw [hsv]; exact i3, by rw [hen]; show min ((sv : Int) + 1) (e : Int) = _; omega, by rw [hsr]; rfl, fun z => by omega, fun z => by omega⟩
          · refine gj_aload_n (pc' := 121) dX8_step_120 rfl rfl ?_
            have hq12 : tSo B e p = 1 ∨ tSo B e p = 2 := by omega
            have hsve : sv < e := by
              rcases Nat.lt_or_ge sv e with z | z
              · exact z
              · rw [if_neg (by omega)] at hso; omega
            have hsq : soB (B sv) = tSo B e p := by rw [hso, if_pos hsve]
            refine gc_X8_49 (pc' := 124) dX8_step_121 rfl (s_takeRun (B := B) (e := e) (s := sv) (q := tSo B e p) (hB2.to ((tpE.put (by decide)).tr (tpE.pul.tr ((tpE.put (by decide)).tr (tpE.put (by decide)))))) i3 rfl rfl rfl hsve hq12 hsq) rfl (by first | rfl | assumption) (by decide) rfl (Nat.le_of_ble_eq_true rfl) (fun v9 h9 q9 => ?_)
            obtain ⟨rfl, r1, r3, r4, r5, r6, r7⟩ := q9
            show gJ _ _ _ _ _ _ _ [] _ _
            refine gj_vret rfl dX8_step_124 ?_
            have hch : tpE h (gui (gui (gul (gui hp 2 5 ((tSo B e p : Nat) : Int)) 2 7 0) 2 6 0) 2 4 (min ((sv : Int) + 1) (e : Int))) := i1.tr ((tpE.put (by decide)).tr (tpE.pul.tr ((tpE.put (by decide)).tr (tpE.put (by decide)))))
            by_cases q : tSo B e p = 1 ∨ tSo B e p = 2
            · rw [if_pos q] at hen
              first
              | (exfalso; omega)
              | (refine ⟨rfl, hch.tr r1, hB.to (hch.tr r1), hpe, by rw [hsv]; exact r3, by rw [r4, hen], ?_, fun z => ?_, fun z => ?_⟩
                 · rw [r5, hsr, hln, hen]
                 · rw [hwd, hln, hen]
                   refine r6 ?_
                   rw [hsr] at z
                   rw [hln, hen] at z
                   split at z <;> omega
                 · rw [hwh, hln, hen]
                   exact r7)
            · rw [if_neg q] at hen
              rw [if_neg (by omega)] at hsr
              first
              | (exfalso; omega)
              | exact ⟨rfl, hch, hB.to hch, hpe, by rw [hsv]; exact i3, by rw [hen]; show min ((sv : Int) + 1) (e : Int) = _; omega, by rw [hsr]; rfl, fun z => by omega, fun z => by omega⟩
    · refine gj_aload_n (pc' := 34) dX8_step_33 rfl rfl ?_
      refine gj_dup (pc' := 35) dX8_step_34 rfl rfl ?_
      refine gf_X8_32 (pc' := 38) dX8_step_35 rfl (by first | rfl | assumption) rfl ?_
      rw [i3]
      refine gj_iconst (pc' := 39) dX8_step_38 rfl ?_
      refine gj_iadd (pc' := 40) dX8_step_39 rfl ?_
      refine gp_X8_32 (pc' := 43) dX8_step_40 rfl (by first | rfl | assumption) rfl ?_
      refine gj_goto (pc' := 8) dX8_step_43 (by decide) ?_
      refine gJ_wk (ih_j  _ (by omega) ?iv_2) ?ll_2
      case ll_2 =>
        repeat' (first | exact True.intro | with_reducible exact rfl | refine And.intro ?_ ?_ | refine vI ?_ | refine vL ?_)
        all_goals omega
      refine ⟨i1.tr (tpE.put (by decide)), by rw [gui_s, up1_s]; omega, i6.trans (tS_t (by omega) ?_)⟩
      have hb := (hbj (by omega)).1
      have c := c30
      unfold sb8 at c
      split at c <;> omega
theorem s_begin8 {h : gH} {B : Nat → Nat} {n : Nat} (hn : n ≤ 900) (h16 : h.1 1 6 = 0) (hB : ∀ j, j < n → B j < 256 ∧ h.1 3 j = sb8 (B j : Int)) : gSp 4 yX8_begin cX8_begin 2 none [.ref 2, .int (zI (n : Int))] h (fun v h' => v = none ∧ h'.2.2 = h.2.2 ∧ (∀ o, o ≠ 2 → h'.1 o = h.1 o ∧ h'.2.1 o = h.2.1 o) ∧ (∀ k, k < 2 → h'.1 2 k = h.1 2 k) ∧ CTk h' B n 0) := by
  refine gSp_of (by decide +kernel) (Nat.le_of_ble_eq_true rfl) ?_
  show gJ RX8 cX8_begin 2 none _ 0 [some (.ref 2), some (.int (zI (n : Int)))] [] _ _
  refine gj_aload_n (pc' := 1) dX8_begin_0 rfl rfl ?_
  refine gj_iload_n (pc' := 2) dX8_begin_1 rfl rfl ?_
  refine gj_sipush (pc' := 5) dX8_begin_2 rfl (by decide) ?_
  refine gj_mmin (pc' := 8) dX8_begin_5 rfl wm_X8_17 (by decide) (by omega) (by omega) (Nat.le_of_ble_eq_true rfl) ?_
  rw [show min (n : Int) 900 = (n : Int) by omega]
  refine gp_X8_23 (pc' := 11) dX8_begin_8 rfl (by first | rfl | assumption) rfl ?_
  refine gj_aload_n (pc' := 12) dX8_begin_11 rfl rfl ?_
  refine gj_iconst (pc' := 13) dX8_begin_12 rfl ?_
  refine gp_X8_26 (pc' := 16) dX8_begin_13 rfl (by first | rfl | assumption) rfl ?_
  refine gj_aload_n (pc' := 17) dX8_begin_16 rfl rfl ?_
  refine gc_X8_29 (pc' := 20) dX8_begin_17 rfl (s_step (B := B) (e := n) (p := 0) ⟨⟨hn, by rw [gui_n (by decide), gui_n (by decide)]; exact h16⟩, rfl, fun j hj => hB j hj⟩ rfl (Nat.zero_le _)) rfl (by first | rfl | assumption) (by decide) rfl (Nat.le_of_ble_eq_true rfl) (fun v9 h9 q9 => ?_)
  obtain ⟨rfl, r1, r2⟩ := q9
  show gJ _ _ _ _ _ _ _ [] _ _
  refine gj_vret rfl dX8_begin_20 ?_
  refine ⟨rfl, r1.1, fun o ho => ⟨(r1.2.1 o ho).1.trans ((gui_n ho).trans (gui_n ho)), (r1.2.1 o ho).2⟩, fun k hk => (r1.2.2 k (by omega)).trans ?_, r2⟩
  rw [gui_s, up1_n (by omega), gui_s, up1_n (by omega)]
