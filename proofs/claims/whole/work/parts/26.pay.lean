/-! a payment, a meeting: the class -/
def sPy (T S : Nat → Nat) (b c : Nat) : Nat → Nat := fun j => if j = 13 + T (21 + 5 * b) then S j - c else if j = 21 then S 21 + c else if j = b then S b + c else S j
def sPay (T S : Nat → Nat) (b c : Nat) : Nat → Nat := fun j => if j = 19 ∧ tLe T S b = c then S 19 ||| 2 ^ b else sPy T S b c j
theorem or_lt {a b n : Nat} (ha : a < 2 ^ n) (hb : b < n) : a ||| 2 ^ b < 2 ^ n := Nat.or_lt_two_pow ha (Nat.pow_lt_pow_right (by omega) hb)
theorem sPy_ne {T S : Nat → Nat} {b c j : Nat} (h1 : j ≠ 13 + T (21 + 5 * b)) (h2 : j ≠ 21) (h3 : j ≠ b) : sPy T S b c j = S j := by
  unfold sPy
  rw [if_neg h1, if_neg h2, if_neg h3]
theorem sPy_co {T S : Nat → Nat} {b c : Nat} : sPy T S b c (13 + T (21 + 5 * b)) = S (13 + T (21 + 5 * b)) - c := if_pos rfl
theorem sPy_sp {T S : Nat → Nat} {b c : Nat} (h : T (21 + 5 * b) < 6) : sPy T S b c 21 = S 21 + c := by
  unfold sPy
  rw [if_neg (by omega), if_pos rfl]
theorem sPy_b {T S : Nat → Nat} {b c : Nat} (hb : b < 7) : sPy T S b c b = S b + c := by
  unfold sPy
  rw [if_neg (by omega), if_neg (by omega), if_pos rfl]
theorem tLe_py {T S : Nat → Nat} {b c : Nat} (hb : b < 7) : tLe T (sPy T S b c) b = tLe T S b - c := by
  unfold tLe
  rw [sPy_b hb]
  omega
theorem SV_py {T S : Nat → Nat} {b c : Nat} (hT : TV T) (hS : SV T S) (hb : b < T 4) (hc : c ≤ tLe T S b) : SV T (sPy T S b c) := by
  have h3 : T 3 ≤ 6 := hT.2.2.2.1.2
  have h4 : T 4 ≤ 7 := hT.2.2.2.2.1
  have ht := (hT.2.2.2.2.2.2.2.2.1 b hb).2.2.1
  refine ⟨fun a ha => ?_, ?_, ?_, fun k hk => ?_, fun k hk => ?_⟩
  · by_cases q : a = b
    · subst q
      rw [sPy_b (by omega)]
      have := hS.1 a ha
      unfold tLe at hc
      omega
    · rw [sPy_ne (by omega) (by omega) q]; exact hS.1 a ha
  · rw [sPy_ne (by omega) (by omega) (by omega)]; exact hS.2.1
  · rw [sPy_ne (by omega) (by omega) (by omega)]; exact hS.2.2.1
  · rw [sPy_ne (by omega) (by omega) (by omega), sPy_ne (by omega) (by omega) (by omega)]; exact hS.2.2.2.1 k hk
  · have := hS.2.2.2.2 k hk
    by_cases q : k = T (21 + 5 * b)
    · rw [q, sPy_co, ← q]; omega
    · rw [sPy_ne (by omega) (by omega) (by omega)]; exact this
theorem SV_pay {T S : Nat → Nat} {b c : Nat} (hT : TV T) (hS : SV T S) (hb : b < T 4) (hc : c ≤ tLe T S b) : SV T (sPay T S b c) := by
  have h3 : T 3 ≤ 6 := hT.2.2.2.1.2
  have h4 : T 4 ≤ 7 := hT.2.2.2.2.1
  obtain ⟨a1, a2, a3, a4, a5⟩ := SV_py hT hS hb hc
  have e : ∀ j, j ≠ 19 → sPay T S b c j = sPy T S b c j := fun j hj => if_neg (fun z => hj z.1)
  refine ⟨fun a ha => ?_, ?_, ?_, fun k hk => ?_, fun k hk => ?_⟩
  · rw [e a (by omega)]; exact a1 a ha
  · unfold sPay
    split
    · exact or_lt hS.2.1 hb
    · exact a2
  · rw [e 20 (by omega)]; exact a3
  · rw [e _ (by omega), e 20 (by omega)]; exact a4 k hk
  · rw [e _ (by omega)]; exact a5 k hk
/-- the present with coins paid: what the class holds -/
theorem PA_py {h : gH} {T S : Nat → Nat} {b c : Nat} {x y z : Int} (h3 : T 3 ≤ 6) (h4 : T 4 ≤ 7) (hb : b < T 4) (ht : T (21 + 5 * b) < T 3) (hk : c ≤ S (13 + T (21 + 5 * b))) (a : PresIs h T S) (hx : x = (S (13 + T (21 + 5 * b)) : Int) - (c : Int)) (hy : y = (S 21 : Int) + (c : Int)) (hz : z = (S b : Int) + (c : Int)) : PresAt (gui (gui (gui h 53 (T (21 + 5 * b)) x) 52 1 y) 55 b z) 52 T (sPy T S b c) := by
  obtain ⟨a0, a1, a2, a3, a4⟩ := a
  refine ⟨?_, ?_, ?_, fun k hk2 => ⟨?_, ?_⟩, fun d hd => ?_⟩
  · rw [gui_n (by decide), gui_s, up1_n (by decide), gui_n (by decide), a0, sPy_ne (by omega) (by omega) (by omega)]
  · rw [gui_n (by decide), gui_s, up1_s, sPy_sp (by omega), hy]; omega
  · rw [gui_n (by decide), gui_s, up1_n (by decide), gui_n (by decide), a2, sPy_ne (by omega) (by omega) (by omega)]
  · show (gui (gui (gui h 53 (T (21 + 5 * b)) x) 52 1 y) 55 b z).1 53 k = _
    rw [gui_n (by decide), gui_n (by decide), gui_s]
    by_cases q : k = T (21 + 5 * b)
    · rw [q, up1_s, sPy_co, hx]; omega
    · rw [up1_n q, (a3 k hk2).1, sPy_ne (by omega) (by omega) (by omega)]
  · show (gui (gui (gui h 53 (T (21 + 5 * b)) x) 52 1 y) 55 b z).1 54 k = _
    rw [gui_n (by decide), gui_n (by decide), gui_n (by decide), (a3 k hk2).2, sPy_ne (by omega) (by omega) (by omega)]
  · show (gui (gui (gui h 53 (T (21 + 5 * b)) x) 52 1 y) 55 b z).1 55 d = _
    rw [gui_s]
    by_cases q : d = b
    · rw [q, up1_s, sPy_b (by omega), hz]; omega
    · rw [up1_n q, gui_n (by decide), gui_n (by decide), a4 d hd, sPy_ne (by omega) (by omega) q]
theorem PA_gone {h : gH} {T S S' : Nat → Nat} {x : Int} (h3 : T 3 ≤ 6) (h4 : T 4 ≤ 7) (a : PresAt h 52 T S) (e : ∀ j, j ≠ 19 → S' j = S j) (hx : x = (S' 19 : Int)) : PresAt (gui h 52 2 x) 52 T S' := by
  obtain ⟨a0, a1, a2, a3, a4⟩ := a
  refine ⟨?_, ?_, ?_, fun k hk2 => ⟨?_, ?_⟩, fun d hd => ?_⟩
  · rw [gui_s, up1_n (by decide), a0, e 20 (by decide)]
  · rw [gui_s, up1_n (by decide), a1, e 21 (by decide)]
  · rw [gui_s, up1_s, hx]
  · rw [gui_n (by decide), (a3 k hk2).1, e _ (by omega)]
  · rw [gui_n (by decide), (a3 k hk2).2, e _ (by omega)]
  · rw [gui_n (by decide), a4 d hd, e _ (by omega)]
theorem s_payFor {h : gH} {t b c : Nat} {T S : Nat → Nat} (hI : CI h t T S) (hb : b < T 4) (hc : c ≤ tLe T S b) (hk : c ≤ S (13 + T (21 + 5 * b))) : gSp 3 yX3_payFor cX3_payFor 4 none [.ref 52, .ref t, .int (zI (b : Int)), .int (zI (c : Int))] h (fun v h' => v = none ∧ h'.2 = h.2 ∧ (∀ o, o ≠ 52 → o ≠ 53 → o ≠ 55 → h'.1 o = h.1 o) ∧ CI h' t T (sPay T S b c)) := by
  obtain ⟨ht, hP, hT, hS, hA, hB, hN⟩ := id hI
  obtain ⟨s0, s1, s2, s3, s4, s5, s6, s7, s8, s9, s10⟩ := shT ht
  have h3 : T 3 ≤ 6 := hT.2.2.2.1.2
  have h4 : T 4 ≤ 7 := hT.2.2.2.2.1
  have htg := (hT.2.2.2.2.2.2.2.2.1 b hb).2.2.1
  have g19 := sv19 hT hS
  have hl := tLe_le (S := S) hT (b := b) hb
  refine gSp_of (by decide +kernel) (Nat.le_of_ble_eq_true rfl) ?_
  show gJ RX3 cX3_payFor 4 none _ 0 [some (.ref 52), some (.ref t), some (.int (zI (b : Int))), some (.int (zI (c : Int)))] [] _ _
  refine gj_aload_n (pc' := 1) dX3_payFor_0 rfl rfl ?_
  refine gf_X3_11 (pc' := 4) dX3_payFor_1 rfl (by first | rfl | assumption) rfl ?_
  refine gj_aload_n (pc' := 5) dX3_payFor_4 rfl rfl ?_
  refine gf_X3_68 (pc' := 8) dX3_payFor_5 rfl (by first | rfl | assumption) rfl ?_
  refine gj_iload_n (pc' := 9) dX3_payFor_8 rfl rfl ?_
  refine gj_iald (pc' := 10) (by first | rfl | assumption) rfl (by omega) (by decide) dX3_payFor_9 rfl ?_
  rw [(hA.2.2 b hb).2.2.1]
  refine gj_dup2 (pc' := 11) dX3_payFor_10 rfl rfl rfl ?_
  refine gj_iald (pc' := 12) (by first | rfl | assumption) rfl (by omega) (by decide) dX3_payFor_11 rfl ?_
  rw [(hN.2.2.2.1 _ htg).1]
  refine gj_iload_n (pc' := 13) dX3_payFor_12 rfl rfl ?_
  refine gj_isub (pc' := 14) dX3_payFor_13 rfl ?_
  refine gj_iast (pc' := 15) (by first | rfl | assumption) rfl (by omega) (by decide) dX3_payFor_14 rfl ?_
  refine gj_aload_n (pc' := 16) dX3_payFor_15 rfl rfl ?_
  refine gj_dup (pc' := 17) dX3_payFor_16 rfl rfl ?_
  refine gf_X3_27 (pc' := 20) dX3_payFor_17 rfl (by first | rfl | assumption) rfl ?_
  rw [gui_n (by decide), hN.2.1]
  refine gj_iload_n (pc' := 21) dX3_payFor_20 rfl rfl ?_
  refine gj_iadd (pc' := 22) dX3_payFor_21 rfl ?_
  refine gp_X3_27 (pc' := 25) dX3_payFor_22 rfl (by first | rfl | assumption) rfl ?_
  refine gj_aload_n (pc' := 26) dX3_payFor_25 rfl rfl ?_
  refine gf_X3_20 (pc' := 29) dX3_payFor_26 rfl (by first | rfl | assumption) rfl ?_
  refine gj_iload_n (pc' := 30) dX3_payFor_29 rfl rfl ?_
  refine gj_dup2 (pc' := 31) dX3_payFor_30 rfl rfl rfl ?_
  refine gj_iald (pc' := 32) (by first | rfl | assumption) rfl (by omega) (by decide) dX3_payFor_31 rfl ?_
  rw [gui_n (by decide), gui_n (by decide), hN.2.2.2.2 b hb]
  refine gj_iload_n (pc' := 33) dX3_payFor_32 rfl rfl ?_
  refine gj_iadd (pc' := 34) dX3_payFor_33 rfl ?_
  refine gj_iast (pc' := 35) (by first | rfl | assumption) rfl (by omega) (by decide) dX3_payFor_34 rfl ?_
  have hI3 := hI.to (h' := gui (gui (gui h 53 (T (21 + 5 * b)) ((S (13 + T (21 + 5 * b)) : Int) - (c : Int))) 52 1 ((S 21 : Int) + (c : Int))) 55 b ((S b : Int) + (c : Int))) rfl (fun o ho => (gui_n (by omega)).trans ((gui_n (by omega)).trans (gui_n (by omega)))) (SV_py hT hS hb hc) (PA_py h3 h4 hb htg hk hN rfl rfl rfl)
  refine gj_aload_n (pc' := 36) dX3_payFor_35 rfl rfl ?_
  refine gj_aload_n (pc' := 37) dX3_payFor_36 rfl rfl ?_
  refine gj_iload_n (pc' := 38) dX3_payFor_37 rfl rfl ?_
  refine gr_X3_101 (pc' := 41) dX3_payFor_38 rfl (s_lacking hI3 hb) rfl (by first | rfl | assumption) (by decide) rfl (Nat.le_of_ble_eq_true rfl) ?_
  rw [tLe_py (by omega)]
  refine gj_if_ne (pc' := 44) (tgt := 56) dX3_payFor_41 (by decide) rfl (by omega) (fun c41 => ?_) (fun c41 => ?_)
  · refine gj_vret rfl dX3_payFor_56 ?_
    first
    | (have hgo : tLe T S b = c := by omega
       refine ⟨rfl, rfl, fun o o1 o2 o3 => (gui_n o1).trans ((gui_n o3).trans ((gui_n o1).trans (gui_n o2))), hI3.to rfl (fun o ho => gui_n (by omega)) (SV_pay hT hS hb hc) (PA_gone h3 h4 hI3.2.2.2.2.2.2 (fun j hj => if_neg (fun z => hj z.1)) ?_)⟩
       show _ = ((if 19 = 19 ∧ tLe T S b = c then S 19 ||| 2 ^ b else sPy T S b c 19 : Nat) : Int)
       rw [if_pos ⟨rfl, hgo⟩])
    | (have hgo : sPay T S b c = sPy T S b c := funext fun j => if_neg (fun z => by omega)
       exact ⟨rfl, rfl, fun o o1 o2 o3 => (gui_n o3).trans ((gui_n o1).trans (gui_n o2)), by rw [hgo]; exact hI3⟩)
  · refine gj_aload_n (pc' := 45) dX3_payFor_44 rfl rfl ?_
    refine gj_dup (pc' := 46) dX3_payFor_45 rfl rfl ?_
    refine gf_X3_30 (pc' := 49) dX3_payFor_46 rfl (by first | rfl | assumption) rfl ?_
    rw [gui_n (by decide), gui_s, up1_n (by decide), gui_n (by decide), hN.2.2.1]
    refine gj_iconst (pc' := 50) dX3_payFor_49 rfl ?_
    refine gj_iload_n (pc' := 51) dX3_payFor_50 rfl rfl ?_
    refine gj_ishl (pc' := 52) dX3_payFor_51 rfl ?_
    rw [bt_shl1 (by omega)]
    refine gj_ior (pc' := 53) dX3_payFor_52 rfl ?_
    rw [bt_or (by omega) (by have := Nat.pow_lt_pow_right (a := 2) (by omega) (show b < 30 by omega); omega)]
    refine gp_X3_30 (pc' := 56) dX3_payFor_53 rfl (by first | rfl | assumption) rfl ?_
    refine gj_vret rfl dX3_payFor_56 ?_
    first
    | (have hgo : tLe T S b = c := by omega
       refine ⟨rfl, rfl, fun o o1 o2 o3 => (gui_n o1).trans ((gui_n o3).trans ((gui_n o1).trans (gui_n o2))), hI3.to rfl (fun o ho => gui_n (by omega)) (SV_pay hT hS hb hc) (PA_gone h3 h4 hI3.2.2.2.2.2.2 (fun j hj => if_neg (fun z => hj z.1)) ?_)⟩
       show _ = ((if 19 = 19 ∧ tLe T S b = c then S 19 ||| 2 ^ b else sPy T S b c 19 : Nat) : Int)
       rw [if_pos ⟨rfl, hgo⟩])
    | (have hgo : sPay T S b c = sPy T S b c := funext fun j => if_neg (fun z => by omega)
       exact ⟨rfl, rfl, fun o o1 o2 o3 => (gui_n o3).trans ((gui_n o1).trans (gui_n o2)), by rw [hgo]; exact hI3⟩)
