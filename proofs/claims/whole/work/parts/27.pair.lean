/-! a meeting: the class; the state of the class -/
def sMtP (T S : Nat → Nat) (b c : Nat) : Nat := if tLe T S b < tLe T S c then T (21 + 5 * c) else T (21 + 5 * b)
def sMt (T S : Nat → Nat) (b c : Nat) : Nat → Nat := fun j => if j = 13 + sMtP T S b c then S j - nD (tLe T S b) (tLe T S c) else if j = 21 then S 21 + nD (tLe T S b) (tLe T S c) else if j = 19 then S 19 ||| (2 ^ b ||| 2 ^ c) else S j
theorem sMtP_lt {T S : Nat → Nat} {b c : Nat} (hT : TV T) (hb : b < T 4) (hc : c < T 4) : sMtP T S b c < T 3 := by
  have h1 := (hT.2.2.2.2.2.2.2.2.1 b hb).2.2.1
  have h2 := (hT.2.2.2.2.2.2.2.2.1 c hc).2.2.1
  unfold sMtP
  split <;> omega
theorem sMt_ne {T S : Nat → Nat} {b c j : Nat} (h1 : j ≠ 13 + sMtP T S b c) (h2 : j ≠ 21) (h3 : j ≠ 19) : sMt T S b c j = S j := by
  unfold sMt
  rw [if_neg h1, if_neg h2, if_neg h3]
theorem SV_mt {T S : Nat → Nat} {b c : Nat} (hT : TV T) (hS : SV T S) (hb : b < T 4) (hc : c < T 4) : SV T (sMt T S b c) := by
  have h3 : T 3 ≤ 6 := hT.2.2.2.1.2
  have h4 : T 4 ≤ 7 := hT.2.2.2.2.1
  have hp := sMtP_lt (S := S) hT hb hc
  refine ⟨fun a ha => ?_, ?_, ?_, fun k hk => ?_, fun k hk => ?_⟩
  · rw [sMt_ne (by omega) (by omega) (by omega)]; exact hS.1 a ha
  · unfold sMt
    rw [if_neg (by omega), if_neg (by omega), if_pos rfl, ← Nat.or_assoc]
    exact or_lt (or_lt hS.2.1 hb) hc
  · rw [sMt_ne (by omega) (by omega) (by omega)]; exact hS.2.2.1
  · rw [sMt_ne (by omega) (by omega) (by omega), sMt_ne (by omega) (by omega) (by omega)]; exact hS.2.2.2.1 k hk
  · have := hS.2.2.2.2 k hk
    unfold sMt
    split
    · omega
    · rw [if_neg (by omega), if_neg (by omega)]; exact this
theorem s_pairUp {h : gH} {t b c : Nat} {T S : Nat → Nat} (hI : CI h t T S) (hb : b < T 4) (hc : c < T 4) (hk : nD (tLe T S b) (tLe T S c) ≤ S (13 + sMtP T S b c)) : gSp 3 yX3_pair cX3_pair 5 none [.ref 52, .ref t, .int (zI (b : Int)), .int (zI (c : Int))] h (fun v h' => v = none ∧ h'.2 = h.2 ∧ (∀ o, o ≠ 52 → o ≠ 53 → h'.1 o = h.1 o) ∧ CI h' t T (sMt T S b c)) := by
  obtain ⟨ht, hP, hT, hS, hA, hB, hN⟩ := id hI
  obtain ⟨s0, s1, s2, s3, s4, s5, s6, s7, s8, s9, s10⟩ := shT ht
  have h3 : T 3 ≤ 6 := hT.2.2.2.1.2
  have h4 : T 4 ≤ 7 := hT.2.2.2.2.1
  have hpl := sMtP_lt (S := S) hT hb hc
  have g19 := sv19 hT hS
  have hb7 : 2 ^ b < 128 := Nat.pow_lt_pow_right (a := 2) (n := 7) (by omega) (by omega)
  have hc7 : 2 ^ c < 128 := Nat.pow_lt_pow_right (a := 2) (n := 7) (by omega) (by omega)
  have hob : 2 ^ b ||| 2 ^ c < 128 := Nat.or_lt_two_pow (n := 7) hb7 hc7
  refine gSp_of (by decide +kernel) (Nat.le_of_ble_eq_true rfl) ?_
  show gJ RX3 cX3_pair 5 none _ 0 [some (.ref 52), some (.ref t), some (.int (zI (b : Int))), some (.int (zI (c : Int))), none] [] _ _
  refine gj_aload_n (pc' := 1) dX3_pair_0 rfl rfl ?_
  refine gj_aload_n (pc' := 2) dX3_pair_1 rfl rfl ?_
  refine gj_iload_n (pc' := 3) dX3_pair_2 rfl rfl ?_
  refine gj_iload_n (pc' := 4) dX3_pair_3 rfl rfl ?_
  refine gr_X3_113 (pc' := 7) dX3_pair_4 rfl (s_pairCost hI hb hc) rfl (by first | rfl | assumption) (by decide) rfl (Nat.le_of_ble_eq_true rfl) ?_
  refine gj_istore (pc' := 9) dX3_pair_7 rfl (by decide) ?_
  refine gj_aload_n (pc' := 10) dX3_pair_9 rfl rfl ?_
  refine gf_X3_11 (pc' := 13) dX3_pair_10 rfl (by first | rfl | assumption) rfl ?_
  refine gj_aload_n (pc' := 14) dX3_pair_13 rfl rfl ?_
  refine gj_aload_n (pc' := 15) dX3_pair_14 rfl rfl ?_
  refine gj_iload_n (pc' := 16) dX3_pair_15 rfl rfl ?_
  refine gj_iload_n (pc' := 17) dX3_pair_16 rfl rfl ?_
  refine gr_X3_116 (pc' := 20) dX3_pair_17 rfl (s_pairPayer hI hb hc) rfl (by first | rfl | assumption) (by decide) rfl (Nat.le_of_ble_eq_true rfl) ?_
  rw [show (if tLe T S b < tLe T S c then T (21 + 5 * c) else T (21 + 5 * b)) = sMtP T S b c from rfl]
  refine gj_dup2 (pc' := 21) dX3_pair_20 rfl rfl rfl ?_
  refine gj_iald (pc' := 22) (by first | rfl | assumption) rfl (by omega) (by decide) dX3_pair_21 rfl ?_
  rw [(hN.2.2.2.1 _ hpl).1]
  refine gj_iload (pc' := 24) dX3_pair_22 rfl rfl ?_
  refine gj_isub (pc' := 25) dX3_pair_24 rfl ?_
  refine gj_iast (pc' := 26) (by first | rfl | assumption) rfl (by omega) (by decide) dX3_pair_25 rfl ?_
  refine gj_aload_n (pc' := 27) dX3_pair_26 rfl rfl ?_
  refine gj_dup (pc' := 28) dX3_pair_27 rfl rfl ?_
  refine gf_X3_27 (pc' := 31) dX3_pair_28 rfl (by first | rfl | assumption) rfl ?_
  rw [gui_n (by decide), hN.2.1]
  refine gj_iload (pc' := 33) dX3_pair_31 rfl rfl ?_
  refine gj_iadd (pc' := 34) dX3_pair_33 rfl ?_
  refine gp_X3_27 (pc' := 37) dX3_pair_34 rfl (by first | rfl | assumption) rfl ?_
  refine gj_aload_n (pc' := 38) dX3_pair_37 rfl rfl ?_
  refine gj_dup (pc' := 39) dX3_pair_38 rfl rfl ?_
  refine gf_X3_30 (pc' := 42) dX3_pair_39 rfl (by first | rfl | assumption) rfl ?_
  rw [gui_s, up1_n (by decide), gui_n (by decide), hN.2.2.1]
  refine gj_iconst (pc' := 43) dX3_pair_42 rfl ?_
  refine gj_iload_n (pc' := 44) dX3_pair_43 rfl rfl ?_
  refine gj_ishl (pc' := 45) dX3_pair_44 rfl ?_
  rw [bt_shl1 (by omega)]
  refine gj_iconst (pc' := 46) dX3_pair_45 rfl ?_
  refine gj_iload_n (pc' := 47) dX3_pair_46 rfl rfl ?_
  refine gj_ishl (pc' := 48) dX3_pair_47 rfl ?_
  rw [bt_shl1 (by omega)]
  refine gj_ior (pc' := 49) dX3_pair_48 rfl ?_
  rw [bt_or (by omega) (by omega)]
  refine gj_ior (pc' := 50) dX3_pair_49 rfl ?_
  rw [bt_or (by omega) (by omega)]
  refine gp_X3_30 (pc' := 53) dX3_pair_50 rfl (by first | rfl | assumption) rfl ?_
  refine gj_vret rfl dX3_pair_53 ?_
  refine ⟨rfl, rfl, fun o o1 o2 => (gui_n o1).trans ((gui_n o1).trans (gui_n o2)), hI.to rfl (fun o ho => (gui_n (by omega)).trans ((gui_n (by omega)).trans (gui_n (by omega)))) (SV_mt hT hS hb hc) ?_⟩
  obtain ⟨a0, a1, a2, a3, a4⟩ := hN
  refine ⟨?_, ?_, ?_, fun k hk2 => ⟨?_, ?_⟩, fun d hd => ?_⟩
  · rw [gui_s, up1_n (by decide), gui_s, up1_n (by decide), gui_n (by decide), a0, sMt_ne (by omega) (by omega) (by omega)]
  · rw [gui_s, up1_n (by decide), gui_s, up1_s]
    unfold sMt
    rw [if_neg (by omega), if_pos rfl]
    omega
  · rw [gui_s, up1_s]
    unfold sMt
    rw [if_neg (by omega), if_neg (by omega), if_pos rfl]
  · rw [gui_n (by decide), gui_n (by decide), gui_s]
    unfold sMt
    by_cases q : k = sMtP T S b c
    · rw [q, up1_s, if_pos rfl]; omega
    · rw [up1_n q, (a3 k hk2).1, if_neg (by omega), if_neg (by omega), if_neg (by omega)]
  · rw [gui_n (by decide), gui_n (by decide), gui_n (by decide), (a3 k hk2).2, sMt_ne (by omega) (by omega) (by omega)]
  · rw [gui_n (by decide), gui_n (by decide), gui_n (by decide), a4 d hd, sMt_ne (by omega) (by omega) (by omega)]
-- the state: the present, the acts that can be undone, the images
abbrev gSt : Type := (Nat → Nat) × (Nat × (Nat → Nat → Nat)) × (Nat × (Nat → Nat → Nat))
def stV (T : Nat → Nat) (s : gSt) : Prop := (∀ k, k < s.2.1.1 → SV T (s.2.1.2 k)) ∧ (∀ i, i < s.2.2.1 → SV T (s.2.2.2 i)) ∧ s.2.1.1 ≤ 16 ∧ s.2.2.1 ≤ 3 ∧ (T 3 = 0 → s.2.1.1 = 0 ∧ s.2.2.1 = 0)
def XST (h : gH) (t : Nat) (T : Nat → Nat) (s : gSt) : Prop := XQ h t T s.1 ∧ XH h T s.2.1.1 s.2.1.2 s.2.2.1 s.2.2.2 ∧ stV T s
theorem CI.to2 {h h' : gH} {t : Nat} {T S : Nat → Nat} (hI : CI h t T S) (e2 : h'.2 = h.2) (e : ∀ o, t ≤ o → o ≤ t + 10 → h'.1 o = h.1 o) (e52 : ∀ o, 52 ≤ o → o ≤ 55 → h'.1 o = h.1 o) : CI h' t T S := by
  obtain ⟨ht, hP, hT, hS, hA, hB, hN0⟩ := hI
  refine ⟨ht, by rw [e2]; exact hP, hT, hS, ⟨fun k hk => ?_, fun k hk => ⟨?_, ?_⟩, fun b hb2 => ?_⟩, fun b hb2 => ⟨?_, ?_⟩, ?_⟩
  · rw [e t (by omega) (by omega)]; exact hA.1 k hk
  · rw [e (t + 1) (by omega) (by omega)]; exact (hA.2.1 k hk).1
  · rw [e (t + 2) (by omega) (by omega)]; exact (hA.2.1 k hk).2
  · rw [e (t + 3) (by omega) (by omega), e (t + 4) (by omega) (by omega), e (t + 5) (by omega) (by omega), e (t + 6) (by omega) (by omega), e (t + 7) (by omega) (by omega)]; exact hA.2.2 b hb2
  · rw [e (t + 8) (by omega) (by omega)]; exact (hB b hb2).1
  · rw [e (t + 9) (by omega) (by omega)]; exact (hB b hb2).2
  · have a : PresAt h 52 T S := hN0
    exact a.same (fun o o1 o2 => e52 o o1 (by omega))
theorem XQ.to {h h' : gH} {t : Nat} {T S : Nat → Nat} (hQ : XQ h t T S) (e2 : h'.2 = h.2) (e : ∀ o, t ≤ o → o ≤ t + 10 → h'.1 o = h.1 o) (e52 : ∀ o, 52 ≤ o → o ≤ 55 → h'.1 o = h.1 o) : XQ h' t T S := by
  obtain ⟨ht, hP, hF, hZ, hC⟩ := hQ
  refine ⟨ht, by rw [e2]; exact hP, ?_, hZ, hC.imp id (fun q => q.to2 e2 e e52)⟩
  rw [e t (by omega) (by omega), e (t + 10) (by omega) (by omega)]
  exact hF
theorem XQ.xs {h h' : gH} {t : Nat} {T S : Nat → Nat} (hQ : XQ h t T S) (hs : XS h h') : XQ h' t T S := by
  have hb : t = 6 ∨ t = 29 := hQ.1
  exact hQ.to hs.1 (fun o o1 o2 => hs.2.1 o (by omega) (by omega) (by omega) (by omega) (by omega) (by omega) (by omega) (by omega)) (fun o o1 o2 => hs.2.1 o (by omega) (by omega) (by omega) (by omega) (by omega) (by omega) (by omega) (by omega))
theorem XH.to {h h' : gH} {T : Nat → Nat} {n m : Nat} {U K : Nat → Nat → Nat} (hH : XH h T n U m K) (e : ∀ o, 56 ≤ o → o ≤ 134 → h'.1 o = h.1 o) : XH h' T n U m K := by
  obtain ⟨x, hx, hn, hm, e2, e3, e4, hU, hK⟩ := hH
  refine ⟨x, hx, hn, hm, ?_, ?_, ?_, fun k hk => (hU k hk).same (fun o o1 o2 => e o (by omega) (by omega)), fun i hi => (hK i hi).same (fun o o1 o2 => e o (by omega) (by omega))⟩
  · rw [e 56 (by omega) (by omega)]; exact e2
  · rw [e 56 (by omega) (by omega)]; exact e3
  · rw [e 56 (by omega) (by omega)]; exact e4
theorem XST.xs {h h' : gH} {t : Nat} {T : Nat → Nat} {s : gSt} (hX : XST h t T s) (hs : XS h h') : XST h' t T s :=
  ⟨hX.1.xs hs, hX.2.1.to (fun o o1 o2 => hs.2.1 o (by omega) (by omega) (by omega) (by omega) (by omega) (by omega) (by omega) (by omega)), hX.2.2⟩
theorem XQ.of {h h' : gH} {t : Nat} {T S S' : Nat → Nat} (hQ : XQ h t T S) (hI : CI h' t T S') (e : h'.1 (t + 10) = h.1 (t + 10)) : XQ h' t T S' := by
  obtain ⟨ht, hP, hF, hZ, hC⟩ := hQ
  refine ⟨ht, hI.2.1, ⟨hI.2.2.2.2.1.1 3 (by omega), hI.2.2.2.2.1.1 4 (by omega), by rw [e]; exact hF.2.2⟩, hZ, Or.inr hI⟩
