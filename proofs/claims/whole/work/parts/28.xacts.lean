/-! the acts: the class's face -/
def stKeep (s : gSt) (S' : Nat → Nat) : gSt := (S', (uPn s.2.1.1, uP s.2.1.1 s.2.1.2 s.1), s.2.2)
def rDay (T : Nat → Nat) (s : gSt) : (Int × Int) × gSt := if T 3 = 0 then ((-1, 1), s) else if 999 ≤ s.1 20 then ((-1, 3), s) else (((sSits T s.1 (s.1 20 + 1) (T 4) : Nat), 0), stKeep s (sDp T s.1 (T 4)))
def rPay (T : Nat → Nat) (s : gSt) (a c : Int) : (Int × Int) × gSt := if 0 ≤ a ∧ a < (T 4 : Int) then (if 1 ≤ c ∧ c ≤ 999 then (if sWh T s.1 a.toNat (s.1 20) = 2 ∧ c.toNat ≤ tLe T s.1 a.toNat then (if c.toNat ≤ s.1 (13 + T (21 + 5 * a.toNat)) then (((tLe T s.1 a.toNat - c.toNat : Nat), 0), stKeep s (sPay T s.1 a.toNat c.toNat)) else ((-1, 6), s)) else ((-1, 5), s)) else ((-1, 2), s)) else ((-1, 1), s)
def rMeet (T : Nat → Nat) (s : gSt) (a b : Int) : (Int × Int) × gSt := if (0 ≤ a ∧ a < (T 4 : Int)) ∧ (0 ≤ b ∧ b < (T 4 : Int)) ∧ a ≠ b then (if sPair T s.1 a.toNat b.toNat = true then (if nD (tLe T s.1 a.toNat) (tLe T s.1 b.toNat) ≤ s.1 (13 + sMtP T s.1 a.toNat b.toNat) then (((nD (tLe T s.1 a.toNat) (tLe T s.1 b.toNat) : Nat), 0), stKeep s (sMt T s.1 a.toNat b.toNat)) else ((-1, 6), s)) else ((-1, 5), s)) else ((-1, 1), s)
def rUndo (s : gSt) : (Int × Int) × gSt := if s.2.1.1 = 0 then ((0, 6), s) else ((1, 0), (s.2.1.2 (s.2.1.1 - 1), (s.2.1.1 - 1, s.2.1.2), s.2.2))
def rImage (T : Nat → Nat) (s : gSt) : (Int × Int) × gSt := if T 3 = 0 then ((-1, 1), s) else if s.2.2.1 = 3 then ((-1, 3), s) else (((s.2.2.1 : Nat), 0), (s.1, s.2.1, (s.2.2.1 + 1, fun i => if i = s.2.2.1 then s.1 else s.2.2.2 i)))
def rBack (s : gSt) (a : Int) : (Int × Int) × gSt := if 0 ≤ a ∧ a < (s.2.2.1 : Int) then ((1, 0), (s.2.2.2 a.toNat, (0, s.2.1.2), s.2.2)) else ((0, 1), s)
def XA (h h' : gH) : Prop := h'.2 = h.2 ∧ (∀ o, o ≠ 0 → o < 52 ∨ 135 ≤ o → o ≠ 136 → o ≠ 137 → o ≠ 139 → o ≠ 140 → o ≠ 141 → o ≠ 28 → o ≠ 51 → h'.1 o = h.1 o) ∧ (∀ k, k ≠ 9 → h'.1 0 k = h.1 0 k)
theorem XS.xa {h h' : gH} (a : XS h h') : XA h h' := ⟨a.1, fun o o0 _ o1 o2 o3 o4 o5 o6 o7 => a.2.1 o o0 o1 o2 o3 o4 o5 o6 o7, a.2.2⟩
theorem XA.tr {h h1 h2 : gH} (a : XA h h1) (b : XA h1 h2) : XA h h2 :=
  ⟨b.1.trans a.1, fun o a0 a1 a2 a3 a4 a5 a6 a7 a8 => (b.2.1 o a0 a1 a2 a3 a4 a5 a6 a7 a8).trans (a.2.1 o a0 a1 a2 a3 a4 a5 a6 a7 a8), fun k hk => (b.2.2 k hk).trans (a.2.2 k hk)⟩
def qXA (r : (Int × Int) × gSt) (h : gH) (t : Nat) (T : Nat → Nat) : Option Value → gH → Prop := fun v h' => v = some (.int (zI r.1.1)) ∧ h'.1 0 9 = r.1.2 ∧ XA h h' ∧ XST h' t T r.2
theorem qXA_n {r : (Int × Int) × gSt} {h h' : gH} {t : Nat} {T : Nat → Nat} {s : gSt} {a tr : Int} (e : r = ((a, tr), s)) (hX : XST h t T s) (hs : XS h h') (hb : h'.1 0 9 = tr) : qXA r h t T (some (.int (zI a))) h' := by
  subst e
  exact ⟨rfl, hb, hs.xa, hX.xs hs⟩
theorem qXA_a {r : (Int × Int) × gSt} {h h1 h' : gH} {t : Nat} {T : Nat → Nat} {s : gSt} {a tr : Int} (e : r = ((a, tr), s)) (hA : XA h h1) (hX : XST h1 t T s) (hs : XS h1 h') (hb : h'.1 0 9 = tr) : qXA r h t T (some (.int (zI a))) h' := by
  subst e
  exact ⟨rfl, hb, hA.tr hs.xa, hX.xs hs⟩
theorem stV.keep {T : Nat → Nat} {s : gSt} {S' : Nat → Nat} (hV : stV T s) (hS : SV T s.1) (h3 : T 3 ≠ 0) : stV T (stKeep s S') := by
  obtain ⟨v1, v2, v3, v4, v5⟩ := hV
  refine ⟨fun k hk => ?_, v2, ?_, v4, fun q => absurd q h3⟩
  · have hk2 : k < uPn s.2.1.1 := hk
    show SV T (uP s.2.1.1 s.2.1.2 s.1 k)
    unfold uPn at hk2
    unfold uP
    split
    · split
      · exact hS
      · exact v1 _ (by rw [if_pos (by assumption)] at hk2; omega)
    · split
      · exact hS
      · exact v1 _ (by rw [if_neg (by assumption)] at hk2; omega)
  · show uPn s.2.1.1 ≤ 16
    unfold uPn
    split <;> omega
theorem x_day {h : gH} {t : Nat} {T : Nat → Nat} {s : gSt} (hX : XST h t T s) : gSp 12 yX10_day cX10_day 1 (some .int) [.ref 0] h (qXA (rDay T s) h t T) := by
  obtain ⟨hQ, hH, hV⟩ := id hX
  obtain ⟨ht, hP, hF, hZ, -⟩ := id hQ
  obtain ⟨s0, s1, s2, s3, s4, s5, s6, s7, s8, s9, s10⟩ := shT ht
  have htt : t = 6 ∨ t = 29 := ht
  refine gSp_of (by decide +kernel) (Nat.le_of_ble_eq_true rfl) ?_
  show gJ RX10 cX10_day 1 (some .int) _ 0 [some (.ref 0)] [] _ _
  refine gj_aload_n (pc' := 1) dX10_day_0 rfl rfl ?_
  refine gr_X10_169 (pc' := 4) dX10_day_1 rfl (x_hasTown hQ) rfl (by first | rfl | assumption) (by decide) rfl (Nat.le_of_ble_eq_true rfl) ?_
  first | refine gj_ifB_ne (pc' := 7) (tgt := 13) dX10_day_4 (by decide) rfl (fun c4 => ?_) (fun c4 => ?_) | refine gj_if_ne (pc' := 7) (tgt := 13) dX10_day_4 (by decide) rfl (by omega) (fun c4 => ?_) (fun c4 => ?_)
  · first | have g4 := of_decide_eq_true c4 | have g4 := of_decide_eq_false c4 | skip
    have hI := hQ.ci (by omega)
    obtain ⟨-, -, hT, hS, hA, hB, hN⟩ := id hI
    have h20 := hS.2.2.1
    refine gj_aload_n (pc' := 14) dX10_day_13 rfl rfl ?_
    refine gf_X10_19 (pc' := 17) dX10_day_14 rfl (by first | rfl | assumption) rfl ?_
    refine gf_X10_123 (pc' := 20) dX10_day_17 rfl (by first | rfl | assumption) rfl ?_
    rw [hN.1]
    refine gj_sipush (pc' := 23) dX10_day_20 rfl (by decide) ?_
    refine gj_icmp_lt (pc' := 26) (tgt := 32) dX10_day_23 (by decide) rfl (by omega) (fun c23 => ?_) (fun c23 => ?_)
    · refine gj_aload_n (pc' := 33) dX10_day_32 rfl rfl ?_
      refine gf_X10_26 (pc' := 36) dX10_day_33 rfl (by first | rfl | assumption) rfl ?_
      refine gj_aload_n (pc' := 37) dX10_day_36 rfl rfl ?_
      refine gf_X10_19 (pc' := 40) dX10_day_37 rfl (by first | rfl | assumption) rfl ?_
      refine gc_X10_342 (pc' := 43) dX10_day_40 rfl (s_keep (S := s.1) hZ.1 hZ.2.1 hN hH) rfl (by first | rfl | assumption) (by decide) rfl (Nat.le_of_ble_eq_true rfl) (fun v9 h9 q9 => ?_)
      obtain ⟨rfl, k0, k1, k2⟩ := q9
      obtain ⟨hk, rfl⟩ : ∃ x, x = h9 := ⟨h9, rfl⟩
      have hI1 : CI hk t T s.1 := hI.to2 k0 (fun o o1 o2 => k1 o (by omega)) (fun o o1 o2 => k1 o (by omega))
      show gJ _ _ _ _ _ _ _ [] _ _
      refine gj_aload_n (pc' := 44) dX10_day_43 rfl rfl ?_
      refine gj_aload_n (pc' := 45) dX10_day_44 rfl rfl ?_
      refine gf_X10_19 (pc' := 48) dX10_day_45 rfl (by first | rfl | assumption) rfl ?_
      refine gj_aload_n (pc' := 49) dX10_day_48 rfl rfl ?_
      refine gf_X10_54 (pc' := 52) dX10_day_49 rfl (by first | rfl | assumption) rfl ?_
      rw [k0, hP]
      refine gc_X10_346 (pc' := 55) dX10_day_52 rfl (s_passDay hI1 (by omega)) rfl (by first | rfl | assumption) (by decide) rfl (Nat.le_of_ble_eq_true rfl) (fun v9 h9 q9 => ?_)
      obtain ⟨rfl, p0, p1, p2⟩ := q9
      obtain ⟨hm, rfl⟩ : ∃ x, x = h9 := ⟨h9, rfl⟩
      show gJ _ _ _ _ _ _ _ (.int (zI _) :: _) _ _
      refine gc_X10_105 (pc' := 58) dX10_day_55 rfl (x_grant) rfl (by first | rfl | assumption) (by decide) rfl (Nat.le_of_ble_eq_true rfl) (fun v9 h9 q9 => ?_)
      obtain ⟨rfl, q9a, q9b⟩ := q9
      show gJ _ _ _ _ _ _ _ (.int (zI _) :: _) _ _
      refine gj_iret rfl dX10_day_58 ?_
      exact qXA_a (s := stKeep s (sDp T s.1 (T 4))) (by unfold rDay; rw [if_neg (by omega), if_neg (by omega)]) ⟨p0.trans k0, fun o o1 o2 _ _ _ _ _ _ _ => (p1 o (by omega) (by omega)).trans (k1 o (by omega)), fun k hk => congrFun ((p1 0 (by decide) (by decide)).trans (k1 0 (by omega))) k⟩ ⟨hQ.of p2 ((p1 _ (by omega) (by omega)).trans (k1 _ (by omega))), k2.to (fun o o1 o2 => p1 o (by omega) (by omega)), hV.keep hS (by omega)⟩ q9a q9b
    · refine gj_aload_n (pc' := 27) dX10_day_26 rfl rfl ?_
      refine gj_iconst (pc' := 28) dX10_day_27 rfl ?_
      refine gc_X10_72 (pc' := 31) dX10_day_28 rfl (x_refuse) rfl (by first | rfl | assumption) (by decide) rfl (Nat.le_of_ble_eq_true rfl) (fun v9 h9 q9 => ?_)
      obtain ⟨rfl, q9a, q9b⟩ := q9
      show gJ _ _ _ _ _ _ _ (.int (zI (-1)) :: _) _ _
      refine gj_iret rfl dX10_day_31 ?_
      exact qXA_n (by unfold rDay; rw [if_neg (by omega), if_pos (by omega)]) hX q9a q9b
  · first | have g4 := of_decide_eq_true c4 | have g4 := of_decide_eq_false c4 | skip
    refine gj_aload_n (pc' := 8) dX10_day_7 rfl rfl ?_
    refine gj_iconst (pc' := 9) dX10_day_8 rfl ?_
    refine gc_X10_72 (pc' := 12) dX10_day_9 rfl (x_refuse) rfl (by first | rfl | assumption) (by decide) rfl (Nat.le_of_ble_eq_true rfl) (fun v9 h9 q9 => ?_)
    obtain ⟨rfl, q9a, q9b⟩ := q9
    show gJ _ _ _ _ _ _ _ (.int (zI (-1)) :: _) _ _
    refine gj_iret rfl dX10_day_12 ?_
    exact qXA_n (by unfold rDay; rw [if_pos (by omega)]) hX q9a q9b
theorem tLe_pay {T S : Nat → Nat} {b c : Nat} (hb : b < 7) : tLe T (sPay T S b c) b = tLe T S b - c := by
  have e : sPay T S b c b = sPy T S b c b := if_neg (fun z => by omega)
  have := tLe_py (T := T) (S := S) (c := c) hb
  unfold tLe at this ⊢
  rw [e]
  exact this
theorem x_pay {h : gH} {t : Nat} {T : Nat → Nat} {s : gSt} {a c : Int} (hX : XST h t T s) (ha : inB a) (hc : inB c) : gSp 12 yX10_pay cX10_pay 3 (some .int) [.ref 0, .int (zI a), .int (zI c)] h (qXA (rPay T s a c) h t T) := by
  obtain ⟨hQ, hH, hV⟩ := id hX
  obtain ⟨ht, hP, hF, hZ, -⟩ := id hQ
  obtain ⟨s0, s1, s2, s3, s4, s5, s6, s7, s8, s9, s10⟩ := shT ht
  have htt : t = 6 ∨ t = 29 := ht
  have ha2 := ha; unfold inB at ha2
  have hc2 := hc; unfold inB at hc2
  refine gSp_of (by decide +kernel) (Nat.le_of_ble_eq_true rfl) ?_
  show gJ RX10 cX10_pay 3 (some .int) _ 0 [some (.ref 0), some (.int (zI a)), some (.int (zI c))] [] _ _
  refine gj_aload_n (pc' := 1) dX10_pay_0 rfl rfl ?_
  refine gj_iload_n (pc' := 2) dX10_pay_1 rfl rfl ?_
  refine gr_X10_134 (pc' := 5) dX10_pay_2 rfl (x_isBird hQ ha) rfl (by first | rfl | assumption) (by decide) rfl (Nat.le_of_ble_eq_true rfl) ?_
  first | refine gj_ifB_ne (pc' := 8) (tgt := 14) dX10_pay_5 (by decide) rfl (fun c5 => ?_) (fun c5 => ?_) | refine gj_if_ne (pc' := 8) (tgt := 14) dX10_pay_5 (by decide) rfl (by omega) (fun c5 => ?_) (fun c5 => ?_)
  · first | have g5 := of_decide_eq_true c5 | have g5 := of_decide_eq_false c5 | skip
    refine gj_iload_n (pc' := 15) dX10_pay_14 rfl rfl ?_
    refine gj_iconst (pc' := 16) dX10_pay_15 rfl ?_
    refine gj_sipush (pc' := 19) dX10_pay_16 rfl (by decide) ?_
    refine gr_X10_183 (pc' := 22) dX10_pay_19 rfl (x_isWithin hc (by unfold inB; omega) (by unfold inB; omega)) rfl (by decide) rfl (Nat.le_of_ble_eq_true rfl) ?_
    first | refine gj_ifB_ne (pc' := 25) (tgt := 31) dX10_pay_22 (by decide) rfl (fun c22 => ?_) (fun c22 => ?_) | refine gj_if_ne (pc' := 25) (tgt := 31) dX10_pay_22 (by decide) rfl (by omega) (fun c22 => ?_) (fun c22 => ?_)
    · first | have g22 := of_decide_eq_true c22 | have g22 := of_decide_eq_false c22 | skip
      have hI := hQ.ci (by omega)
      obtain ⟨-, -, hT, hS, hA, hB, hN⟩ := id hI
      have h20 := hS.2.2.1
      obtain ⟨n, rfl⟩ : ∃ n : Nat, a = (n : Int) := ⟨a.toNat, by omega⟩
      obtain ⟨k, rfl⟩ : ∃ k : Nat, c = (k : Int) := ⟨c.toNat, by omega⟩
      have htg := (hT.2.2.2.2.2.2.2.2.1 n (by omega)).2.2.1
      have hle := tLe_le (S := s.1) hT (b := n) (by omega)
      have hco := hS.2.2.2.2 _ htg
      refine gj_aload_n (pc' := 32) dX10_pay_31 rfl rfl ?_
      refine gf_X10_19 (pc' := 35) dX10_pay_32 rfl (by first | rfl | assumption) rfl ?_
      refine gj_aload_n (pc' := 36) dX10_pay_35 rfl rfl ?_
      refine gf_X10_54 (pc' := 39) dX10_pay_36 rfl (by first | rfl | assumption) rfl ?_
      rw [hP]
      refine gj_iload_n (pc' := 40) dX10_pay_39 rfl rfl ?_
      refine gj_aload_n (pc' := 41) dX10_pay_40 rfl rfl ?_
      refine gf_X10_19 (pc' := 44) dX10_pay_41 rfl (by first | rfl | assumption) rfl ?_
      refine gf_X10_123 (pc' := 47) dX10_pay_44 rfl (by first | rfl | assumption) rfl ?_
      rw [hN.1]
      refine gr_X10_306 (pc' := 50) dX10_pay_47 rfl (s_sitsOn hI (by omega) (by omega)) rfl (by first | rfl | assumption) (by decide) rfl (Nat.le_of_ble_eq_true rfl) ?_
      rw [show (sWh T s.1 n (s.1 20) == 2) = decide (sWh T s.1 n (s.1 20) = 2) from rfl]
      first | refine gj_ifB_eq (pc' := 53) (tgt := 69) dX10_pay_50 (by decide) rfl (fun c50 => ?_) (fun c50 => ?_) | refine gj_if_eq (pc' := 53) (tgt := 69) dX10_pay_50 (by decide) rfl (by omega) (fun c50 => ?_) (fun c50 => ?_)
      · first | have g50 := of_decide_eq_true c50 | have g50 := of_decide_eq_false c50 | skip
        refine gj_aload_n (pc' := 70) dX10_pay_69 rfl rfl ?_
        refine gj_iconst (pc' := 71) dX10_pay_70 rfl ?_
        refine gc_X10_72 (pc' := 74) dX10_pay_71 rfl (x_refuse) rfl (by first | rfl | assumption) (by decide) rfl (Nat.le_of_ble_eq_true rfl) (fun v9 h9 q9 => ?_)
        obtain ⟨rfl, q9a, q9b⟩ := q9
        show gJ _ _ _ _ _ _ _ (.int (zI (-1)) :: _) _ _
        refine gj_iret rfl dX10_pay_74 ?_
        exact qXA_n (by unfold rPay; simp only [Int.toNat_natCast]; rw [if_pos (by omega), if_pos (by omega), if_neg (by omega)]) hX q9a q9b
      · first | have g50 := of_decide_eq_true c50 | have g50 := of_decide_eq_false c50 | skip
        refine gj_aload_n (pc' := 54) dX10_pay_53 rfl rfl ?_
        refine gf_X10_19 (pc' := 57) dX10_pay_54 rfl (by first | rfl | assumption) rfl ?_
        refine gj_aload_n (pc' := 58) dX10_pay_57 rfl rfl ?_
        refine gf_X10_54 (pc' := 61) dX10_pay_58 rfl (by first | rfl | assumption) rfl ?_
        rw [hP]
        refine gj_iload_n (pc' := 62) dX10_pay_61 rfl rfl ?_
        refine gr_X10_155 (pc' := 65) dX10_pay_62 rfl (s_lacking hI (by omega)) rfl (by first | rfl | assumption) (by decide) rfl (Nat.le_of_ble_eq_true rfl) ?_
        refine gj_iload_n (pc' := 66) dX10_pay_65 rfl rfl ?_
        refine gj_icmp_ge (pc' := 69) (tgt := 75) dX10_pay_66 (by decide) rfl (by omega) (fun c66 => ?_) (fun c66 => ?_)
        · refine gj_aload_n (pc' := 76) dX10_pay_75 rfl rfl ?_
          refine gf_X10_19 (pc' := 79) dX10_pay_76 rfl (by first | rfl | assumption) rfl ?_
          refine gf_X10_117 (pc' := 82) dX10_pay_79 rfl (by first | rfl | assumption) rfl ?_
          refine gj_aload_n (pc' := 83) dX10_pay_82 rfl rfl ?_
          refine gf_X10_54 (pc' := 86) dX10_pay_83 rfl (by first | rfl | assumption) rfl ?_
          rw [hP]
          refine gf_X10_143 (pc' := 89) dX10_pay_86 rfl (by first | rfl | assumption) rfl ?_
          refine gj_iload_n (pc' := 90) dX10_pay_89 rfl rfl ?_
          refine gj_iald (pc' := 91) (by first | rfl | assumption) rfl (by omega) (by decide) dX10_pay_90 rfl ?_
          rw [(hA.2.2 n (by omega)).2.2.1]
          refine gj_iald (pc' := 92) (j := T (21 + 5 * n)) (by first | rfl | assumption) (by omega) (by omega) (by decide) dX10_pay_91 rfl ?_
          rw [(hN.2.2.2.1 _ htg).1]
          refine gj_iload_n (pc' := 93) dX10_pay_92 rfl rfl ?_
          refine gj_icmp_ge (pc' := 96) (tgt := 103) dX10_pay_93 (by decide) rfl (by omega) (fun c93 => ?_) (fun c93 => ?_)
          · refine gj_aload_n (pc' := 104) dX10_pay_103 rfl rfl ?_
            refine gf_X10_26 (pc' := 107) dX10_pay_104 rfl (by first | rfl | assumption) rfl ?_
            refine gj_aload_n (pc' := 108) dX10_pay_107 rfl rfl ?_
            refine gf_X10_19 (pc' := 111) dX10_pay_108 rfl (by first | rfl | assumption) rfl ?_
            refine gc_X10_342 (pc' := 114) dX10_pay_111 rfl (s_keep (S := s.1) hZ.1 hZ.2.1 hN hH) rfl (by first | rfl | assumption) (by decide) rfl (Nat.le_of_ble_eq_true rfl) (fun v9 h9 q9 => ?_)
            obtain ⟨rfl, k0, k1, k2⟩ := q9
            obtain ⟨hk, rfl⟩ : ∃ x, x = h9 := ⟨h9, rfl⟩
            have hI1 : CI hk t T s.1 := hI.to2 k0 (fun o o1 o2 => k1 o (by omega)) (fun o o1 o2 => k1 o (by omega))
            show gJ _ _ _ _ _ _ _ [] _ _
            refine gj_aload_n (pc' := 115) dX10_pay_114 rfl rfl ?_
            refine gf_X10_19 (pc' := 118) dX10_pay_115 rfl (by first | rfl | assumption) rfl ?_
            refine gj_aload_n (pc' := 119) dX10_pay_118 rfl rfl ?_
            refine gf_X10_54 (pc' := 122) dX10_pay_119 rfl (by first | rfl | assumption) rfl ?_
            rw [k0, hP]
            refine gj_iload_n (pc' := 123) dX10_pay_122 rfl rfl ?_
            refine gj_iload_n (pc' := 124) dX10_pay_123 rfl rfl ?_
            refine gc_X10_349 (pc' := 127) dX10_pay_124 rfl (s_payFor (b := n) (c := k) hI1 (by omega) (by omega) (by omega)) rfl (by first | rfl | assumption) (by decide) rfl (Nat.le_of_ble_eq_true rfl) (fun v9 h9 q9 => ?_)
            obtain ⟨rfl, p0, p1, p2⟩ := q9
            obtain ⟨hm, rfl⟩ : ∃ x, x = h9 := ⟨h9, rfl⟩
            show gJ _ _ _ _ _ _ _ [] _ _
            refine gj_aload_n (pc' := 128) dX10_pay_127 rfl rfl ?_
            refine gj_aload_n (pc' := 129) dX10_pay_128 rfl rfl ?_
            refine gf_X10_19 (pc' := 132) dX10_pay_129 rfl (by first | rfl | assumption) rfl ?_
            refine gj_aload_n (pc' := 133) dX10_pay_132 rfl rfl ?_
            refine gf_X10_54 (pc' := 136) dX10_pay_133 rfl (by first | rfl | assumption) rfl ?_
            rw [p0, k0, hP]
            refine gj_iload_n (pc' := 137) dX10_pay_136 rfl rfl ?_
            refine gr_X10_155 (pc' := 140) dX10_pay_137 rfl (s_lacking p2 (by omega)) rfl (by first | rfl | assumption) (by decide) rfl (Nat.le_of_ble_eq_true rfl) ?_
            rw [tLe_pay (by omega)]
            refine gc_X10_105 (pc' := 143) dX10_pay_140 rfl (x_grant) rfl (by first | rfl | assumption) (by decide) rfl (Nat.le_of_ble_eq_true rfl) (fun v9 h9 q9 => ?_)
            obtain ⟨rfl, q9a, q9b⟩ := q9
            show gJ _ _ _ _ _ _ _ (.int (zI _) :: _) _ _
            refine gj_iret rfl dX10_pay_143 ?_
            exact qXA_a (s := stKeep s (sPay T s.1 n k)) (by unfold rPay; simp only [Int.toNat_natCast]; rw [if_pos (by omega), if_pos (by omega), if_pos (by omega), if_pos (by omega)]) ⟨p0.trans k0, fun o o1 o2 _ _ _ _ _ _ _ => (p1 o (by omega) (by omega) (by omega)).trans (k1 o (by omega)), fun k hk => congrFun ((p1 0 (by decide) (by decide) (by decide)).trans (k1 0 (by omega))) k⟩ ⟨hQ.of p2 ((p1 _ (by omega) (by omega) (by omega)).trans (k1 _ (by omega))), k2.to (fun o o1 o2 => p1 o (by omega) (by omega) (by omega)), hV.keep hS (by omega)⟩ q9a q9b
          · refine gj_aload_n (pc' := 97) dX10_pay_96 rfl rfl ?_
            refine gj_bipush (pc' := 99) dX10_pay_97 rfl (by decide) ?_
            refine gc_X10_72 (pc' := 102) dX10_pay_99 rfl (x_refuse) rfl (by first | rfl | assumption) (by decide) rfl (Nat.le_of_ble_eq_true rfl) (fun v9 h9 q9 => ?_)
            obtain ⟨rfl, q9a, q9b⟩ := q9
            show gJ _ _ _ _ _ _ _ (.int (zI (-1)) :: _) _ _
            refine gj_iret rfl dX10_pay_102 ?_
            exact qXA_n (by unfold rPay; simp only [Int.toNat_natCast]; rw [if_pos (by omega), if_pos (by omega), if_pos (by omega), if_neg (by omega)]) hX q9a q9b
        · refine gj_aload_n (pc' := 70) dX10_pay_69 rfl rfl ?_
          refine gj_iconst (pc' := 71) dX10_pay_70 rfl ?_
          refine gc_X10_72 (pc' := 74) dX10_pay_71 rfl (x_refuse) rfl (by first | rfl | assumption) (by decide) rfl (Nat.le_of_ble_eq_true rfl) (fun v9 h9 q9 => ?_)
          obtain ⟨rfl, q9a, q9b⟩ := q9
          show gJ _ _ _ _ _ _ _ (.int (zI (-1)) :: _) _ _
          refine gj_iret rfl dX10_pay_74 ?_
          exact qXA_n (by unfold rPay; simp only [Int.toNat_natCast]; rw [if_pos (by omega), if_pos (by omega), if_neg (by omega)]) hX q9a q9b
    · first | have g22 := of_decide_eq_true c22 | have g22 := of_decide_eq_false c22 | skip
      refine gj_aload_n (pc' := 26) dX10_pay_25 rfl rfl ?_
      refine gj_iconst (pc' := 27) dX10_pay_26 rfl ?_
      refine gc_X10_72 (pc' := 30) dX10_pay_27 rfl (x_refuse) rfl (by first | rfl | assumption) (by decide) rfl (Nat.le_of_ble_eq_true rfl) (fun v9 h9 q9 => ?_)
      obtain ⟨rfl, q9a, q9b⟩ := q9
      show gJ _ _ _ _ _ _ _ (.int (zI (-1)) :: _) _ _
      refine gj_iret rfl dX10_pay_30 ?_
      exact qXA_n (by unfold rPay; rw [if_pos (by omega), if_neg (by omega)]) hX q9a q9b
  · first | have g5 := of_decide_eq_true c5 | have g5 := of_decide_eq_false c5 | skip
    refine gj_aload_n (pc' := 9) dX10_pay_8 rfl rfl ?_
    refine gj_iconst (pc' := 10) dX10_pay_9 rfl ?_
    refine gc_X10_72 (pc' := 13) dX10_pay_10 rfl (x_refuse) rfl (by first | rfl | assumption) (by decide) rfl (Nat.le_of_ble_eq_true rfl) (fun v9 h9 q9 => ?_)
    obtain ⟨rfl, q9a, q9b⟩ := q9
    show gJ _ _ _ _ _ _ _ (.int (zI (-1)) :: _) _ _
    refine gj_iret rfl dX10_pay_13 ?_
    exact qXA_n (by unfold rPay; rw [if_neg (by omega)]) hX q9a q9b
theorem x_meet {h : gH} {t : Nat} {T : Nat → Nat} {s : gSt} {a c : Int} (hX : XST h t T s) (ha : inB a) (hc : inB c) : gSp 12 yX10_meet cX10_meet 4 (some .int) [.ref 0, .int (zI a), .int (zI c)] h (qXA (rMeet T s a c) h t T) := by
  obtain ⟨hQ, hH, hV⟩ := id hX
  obtain ⟨ht, hP, hF, hZ, -⟩ := id hQ
  obtain ⟨s0, s1, s2, s3, s4, s5, s6, s7, s8, s9, s10⟩ := shT ht
  have htt : t = 6 ∨ t = 29 := ht
  have ha2 := ha; unfold inB at ha2
  have hc2 := hc; unfold inB at hc2
  refine gSp_of (by decide +kernel) (Nat.le_of_ble_eq_true rfl) ?_
  show gJ RX10 cX10_meet 4 (some .int) _ 0 [some (.ref 0), some (.int (zI a)), some (.int (zI c)), none] [] _ _
  refine gj_aload_n (pc' := 1) dX10_meet_0 rfl rfl ?_
  refine gj_iload_n (pc' := 2) dX10_meet_1 rfl rfl ?_
  refine gj_iload_n (pc' := 3) dX10_meet_2 rfl rfl ?_
  refine gr_X10_211 (pc' := 6) dX10_meet_3 rfl (x_areTwoBirds hQ ha hc) rfl (by first | rfl | assumption) (by decide) rfl (Nat.le_of_ble_eq_true rfl) ?_
  first | refine gj_ifB_ne (pc' := 9) (tgt := 15) dX10_meet_6 (by decide) rfl (fun c6 => ?_) (fun c6 => ?_) | refine gj_if_ne (pc' := 9) (tgt := 15) dX10_meet_6 (by decide) rfl (by omega) (fun c6 => ?_) (fun c6 => ?_)
  · first | have g6 := of_decide_eq_true c6 | have g6 := of_decide_eq_false c6 | skip
    have hI := hQ.ci (by omega)
    obtain ⟨-, -, hT, hS, hA, hB, hN⟩ := id hI
    have h20 := hS.2.2.1
    obtain ⟨n, rfl⟩ : ∃ n : Nat, a = (n : Int) := ⟨a.toNat, by omega⟩
    obtain ⟨k, rfl⟩ : ∃ k : Nat, c = (k : Int) := ⟨c.toNat, by omega⟩
    have hpl := sMtP_lt (S := s.1) hT (b := n) (c := k) (by omega) (by omega)
    have hle := tLe_le (S := s.1) hT (b := n) (by omega)
    have hle2 := tLe_le (S := s.1) hT (b := k) (by omega)
    have hnd := nD_le hle hle2
    have hco := hS.2.2.2.2 _ hpl
    refine gj_aload_n (pc' := 16) dX10_meet_15 rfl rfl ?_
    refine gf_X10_19 (pc' := 19) dX10_meet_16 rfl (by first | rfl | assumption) rfl ?_
    refine gj_aload_n (pc' := 20) dX10_meet_19 rfl rfl ?_
    refine gf_X10_54 (pc' := 23) dX10_meet_20 rfl (by first | rfl | assumption) rfl ?_
    rw [hP]
    refine gj_iload_n (pc' := 24) dX10_meet_23 rfl rfl ?_
    refine gj_iload_n (pc' := 25) dX10_meet_24 rfl rfl ?_
    refine gr_X10_214 (pc' := 28) dX10_meet_25 rfl (s_canPair hI (by omega) (by omega)) rfl (by first | rfl | assumption) (by decide) rfl (Nat.le_of_ble_eq_true rfl) ?_
    show gJ _ _ _ _ _ _ _ (.int (zI (bI (sPair T s.1 n k))) :: _) _ _
    first | refine gj_ifB_ne (pc' := 31) (tgt := 37) dX10_meet_28 (by decide) rfl (fun c28 => ?_) (fun c28 => ?_) | refine gj_if_ne (pc' := 31) (tgt := 37) dX10_meet_28 (by decide) rfl (by omega) (fun c28 => ?_) (fun c28 => ?_)
    · first | have g28 := of_decide_eq_true c28 | have g28 := of_decide_eq_false c28 | skip
      refine gj_aload_n (pc' := 38) dX10_meet_37 rfl rfl ?_
      refine gf_X10_19 (pc' := 41) dX10_meet_38 rfl (by first | rfl | assumption) rfl ?_
      refine gj_aload_n (pc' := 42) dX10_meet_41 rfl rfl ?_
      refine gf_X10_54 (pc' := 45) dX10_meet_42 rfl (by first | rfl | assumption) rfl ?_
      rw [hP]
      refine gj_iload_n (pc' := 46) dX10_meet_45 rfl rfl ?_
      refine gj_iload_n (pc' := 47) dX10_meet_46 rfl rfl ?_
      refine gr_X10_218 (pc' := 50) dX10_meet_47 rfl (s_pairCost hI (by omega) (by omega)) rfl (by first | rfl | assumption) (by decide) rfl (Nat.le_of_ble_eq_true rfl) ?_
      refine gj_istore_n (pc' := 51) dX10_meet_50 rfl (by decide) ?_
      refine gj_aload_n (pc' := 52) dX10_meet_51 rfl rfl ?_
      refine gf_X10_19 (pc' := 55) dX10_meet_52 rfl (by first | rfl | assumption) rfl ?_
      refine gf_X10_117 (pc' := 58) dX10_meet_55 rfl (by first | rfl | assumption) rfl ?_
      refine gj_aload_n (pc' := 59) dX10_meet_58 rfl rfl ?_
      refine gf_X10_19 (pc' := 62) dX10_meet_59 rfl (by first | rfl | assumption) rfl ?_
      refine gj_aload_n (pc' := 63) dX10_meet_62 rfl rfl ?_
      refine gf_X10_54 (pc' := 66) dX10_meet_63 rfl (by first | rfl | assumption) rfl ?_
      rw [hP]
      refine gj_iload_n (pc' := 67) dX10_meet_66 rfl rfl ?_
      refine gj_iload_n (pc' := 68) dX10_meet_67 rfl rfl ?_
      refine gr_X10_353 (pc' := 71) dX10_meet_68 rfl (s_pairPayer hI (by omega) (by omega)) rfl (by first | rfl | assumption) (by decide) rfl (Nat.le_of_ble_eq_true rfl) ?_
      rw [show (if tLe T s.1 n < tLe T s.1 k then T (21 + 5 * k) else T (21 + 5 * n)) = sMtP T s.1 n k from rfl]
      refine gj_iald (pc' := 72) (j := sMtP T s.1 n k) (by first | rfl | assumption) (by omega) (by omega) (by decide) dX10_meet_71 rfl ?_
      rw [(hN.2.2.2.1 _ hpl).1]
      refine gj_iload_n (pc' := 73) dX10_meet_72 rfl rfl ?_
      refine gj_icmp_ge (pc' := 76) (tgt := 83) dX10_meet_73 (by decide) rfl (by omega) (fun c73 => ?_) (fun c73 => ?_)
      · refine gj_aload_n (pc' := 84) dX10_meet_83 rfl rfl ?_
        refine gf_X10_26 (pc' := 87) dX10_meet_84 rfl (by first | rfl | assumption) rfl ?_
        refine gj_aload_n (pc' := 88) dX10_meet_87 rfl rfl ?_
        refine gf_X10_19 (pc' := 91) dX10_meet_88 rfl (by first | rfl | assumption) rfl ?_
        refine gc_X10_342 (pc' := 94) dX10_meet_91 rfl (s_keep (S := s.1) hZ.1 hZ.2.1 hN hH) rfl (by first | rfl | assumption) (by decide) rfl (Nat.le_of_ble_eq_true rfl) (fun v9 h9 q9 => ?_)
        obtain ⟨rfl, k0, k1, k2⟩ := q9
        obtain ⟨hk, rfl⟩ : ∃ x, x = h9 := ⟨h9, rfl⟩
        have hI1 : CI hk t T s.1 := hI.to2 k0 (fun o o1 o2 => k1 o (by omega)) (fun o o1 o2 => k1 o (by omega))
        show gJ _ _ _ _ _ _ _ [] _ _
        refine gj_aload_n (pc' := 95) dX10_meet_94 rfl rfl ?_
        refine gf_X10_19 (pc' := 98) dX10_meet_95 rfl (by first | rfl | assumption) rfl ?_
        refine gj_aload_n (pc' := 99) dX10_meet_98 rfl rfl ?_
        refine gf_X10_54 (pc' := 102) dX10_meet_99 rfl (by first | rfl | assumption) rfl ?_
        rw [k0, hP]
        refine gj_iload_n (pc' := 103) dX10_meet_102 rfl rfl ?_
        refine gj_iload_n (pc' := 104) dX10_meet_103 rfl rfl ?_
        refine gc_X10_356 (pc' := 107) dX10_meet_104 rfl (s_pairUp (b := n) (c := k) hI1 (by omega) (by omega) (by omega)) rfl (by first | rfl | assumption) (by decide) rfl (Nat.le_of_ble_eq_true rfl) (fun v9 h9 q9 => ?_)
        obtain ⟨rfl, p0, p1, p2⟩ := q9
        obtain ⟨hm, rfl⟩ : ∃ x, x = h9 := ⟨h9, rfl⟩
        show gJ _ _ _ _ _ _ _ [] _ _
        refine gj_aload_n (pc' := 108) dX10_meet_107 rfl rfl ?_
        refine gj_iload_n (pc' := 109) dX10_meet_108 rfl rfl ?_
        refine gc_X10_105 (pc' := 112) dX10_meet_109 rfl (x_grant) rfl (by first | rfl | assumption) (by decide) rfl (Nat.le_of_ble_eq_true rfl) (fun v9 h9 q9 => ?_)
        obtain ⟨rfl, q9a, q9b⟩ := q9
        show gJ _ _ _ _ _ _ _ (.int (zI _) :: _) _ _
        refine gj_iret rfl dX10_meet_112 ?_
        exact qXA_a (s := stKeep s (sMt T s.1 n k)) (by unfold rMeet; simp only [Int.toNat_natCast]; rw [if_pos (by omega), c28, if_pos rfl, if_pos (by omega)]) ⟨p0.trans k0, fun o o1 o2 _ _ _ _ _ _ _ => (p1 o (by omega) (by omega)).trans (k1 o (by omega)), fun k hk => congrFun ((p1 0 (by decide) (by decide)).trans (k1 0 (by omega))) k⟩ ⟨hQ.of p2 ((p1 _ (by omega) (by omega)).trans (k1 _ (by omega))), k2.to (fun o o1 o2 => p1 o (by omega) (by omega)), hV.keep hS (by omega)⟩ q9a q9b
      · refine gj_aload_n (pc' := 77) dX10_meet_76 rfl rfl ?_
        refine gj_bipush (pc' := 79) dX10_meet_77 rfl (by decide) ?_
        refine gc_X10_72 (pc' := 82) dX10_meet_79 rfl (x_refuse) rfl (by first | rfl | assumption) (by decide) rfl (Nat.le_of_ble_eq_true rfl) (fun v9 h9 q9 => ?_)
        obtain ⟨rfl, q9a, q9b⟩ := q9
        show gJ _ _ _ _ _ _ _ (.int (zI (-1)) :: _) _ _
        refine gj_iret rfl dX10_meet_82 ?_
        exact qXA_n (by unfold rMeet; simp only [Int.toNat_natCast]; rw [if_pos (by omega), c28, if_pos rfl, if_neg (by omega)]) hX q9a q9b
    · first | have g28 := of_decide_eq_true c28 | have g28 := of_decide_eq_false c28 | skip
      refine gj_aload_n (pc' := 32) dX10_meet_31 rfl rfl ?_
      refine gj_iconst (pc' := 33) dX10_meet_32 rfl ?_
      refine gc_X10_72 (pc' := 36) dX10_meet_33 rfl (x_refuse) rfl (by first | rfl | assumption) (by decide) rfl (Nat.le_of_ble_eq_true rfl) (fun v9 h9 q9 => ?_)
      obtain ⟨rfl, q9a, q9b⟩ := q9
      show gJ _ _ _ _ _ _ _ (.int (zI (-1)) :: _) _ _
      refine gj_iret rfl dX10_meet_36 ?_
      exact qXA_n (by unfold rMeet; simp only [Int.toNat_natCast]; rw [if_pos (by omega), c28, if_neg (by decide)]) hX q9a q9b
  · first | have g6 := of_decide_eq_true c6 | have g6 := of_decide_eq_false c6 | skip
    refine gj_aload_n (pc' := 10) dX10_meet_9 rfl rfl ?_
    refine gj_iconst (pc' := 11) dX10_meet_10 rfl ?_
    refine gc_X10_72 (pc' := 14) dX10_meet_11 rfl (x_refuse) rfl (by first | rfl | assumption) (by decide) rfl (Nat.le_of_ble_eq_true rfl) (fun v9 h9 q9 => ?_)
    obtain ⟨rfl, q9a, q9b⟩ := q9
    show gJ _ _ _ _ _ _ _ (.int (zI (-1)) :: _) _ _
    refine gj_iret rfl dX10_meet_14 ?_
    exact qXA_n (by unfold rMeet; rw [if_neg (by omega)]) hX q9a q9b
theorem x_undo {h : gH} {t : Nat} {T : Nat → Nat} {s : gSt} (hX : XST h t T s) : gSp 12 yX10_undo cX10_undo 1 (some .boolean) [.ref 0] h (qXA (rUndo s) h t T) := by
  obtain ⟨hQ, hH, hV⟩ := id hX
  obtain ⟨ht, hP, hF, hZ, -⟩ := id hQ
  have htt : t = 6 ∨ t = 29 := ht
  refine gSp_of (by decide +kernel) (Nat.le_of_ble_eq_true rfl) ?_
  show gJ RX10 cX10_undo 1 (some .boolean) _ 0 [some (.ref 0)] [] _ _
  refine gj_aload_n (pc' := 1) dX10_undo_0 rfl rfl ?_
  refine gf_X10_26 (pc' := 4) dX10_undo_1 rfl (by first | rfl | assumption) rfl ?_
  refine gj_aload_n (pc' := 5) dX10_undo_4 rfl rfl ?_
  refine gf_X10_19 (pc' := 8) dX10_undo_5 rfl (by first | rfl | assumption) rfl ?_
  refine gc_X10_359 (pc' := 11) dX10_undo_8 rfl (s_takeBack hZ.1 hZ.2.1 hH) rfl (by first | rfl | assumption) (by decide) rfl (Nat.le_of_ble_eq_true rfl) (fun v9 h9 q9 => ?_)
  obtain ⟨rfl, k0, k1, k2, k3, k4⟩ := q9
  obtain ⟨hk, rfl⟩ : ∃ x, x = h9 := ⟨h9, rfl⟩
  show gJ _ _ _ _ _ _ _ [.int (zI (bI (decide (s.2.1.1 ≠ 0))))] _ _
  first | refine gj_ifB_ne (pc' := 14) (tgt := 22) dX10_undo_11 (by decide) rfl (fun c11 => ?_) (fun c11 => ?_) | refine gj_if_ne (pc' := 14) (tgt := 22) dX10_undo_11 (by decide) rfl (by omega) (fun c11 => ?_) (fun c11 => ?_)
  · first | have g11 := of_decide_eq_true c11 | have g11 := of_decide_eq_false c11 | skip
    refine gj_aload_n (pc' := 23) dX10_undo_22 rfl rfl ?_
    refine gj_iconst (pc' := 24) dX10_undo_23 rfl ?_
    refine gp_X10_108 (pc' := 27) dX10_undo_24 rfl (by first | rfl | assumption) rfl ?_
    refine gj_iconst (pc' := 28) dX10_undo_27 rfl ?_
    refine gj_zret rfl (by first | rfl | exact gnZ _ | assumption) dX10_undo_28 ?_
    have hn : s.2.1.1 ≠ 0 := by omega
    obtain ⟨v1, v2, v3, v4, v5⟩ := hV
    have hI := hQ.ci (by omega)
    have hI1 : CI hk t T (s.2.1.2 (s.2.1.1 - 1)) := hI.to k0 (fun o o1 => k1 o (by omega)) (v1 _ (by omega)) (k4 hn)
    exact qXA_a (s := (s.2.1.2 (s.2.1.1 - 1), (s.2.1.1 - 1, s.2.1.2), s.2.2)) (a := 1) (tr := 0) (by unfold rUndo; rw [if_neg hn]) ⟨k0, fun o o1 o2 _ _ _ _ _ _ _ => k1 o (by omega), fun k _ => congrFun (k1 0 (by omega)) k⟩ ⟨hQ.of hI1 (k1 _ (by omega)), k2, ⟨fun k hk2 => v1 k (by have : k < s.2.1.1 - 1 := hk2; omega), v2, by show s.2.1.1 - 1 ≤ 16; omega, v4, fun q => absurd (v5 q).1 hn⟩⟩ (XS.put _ 0) (by rw [gui_s, up1_s])
  · first | have g11 := of_decide_eq_true c11 | have g11 := of_decide_eq_false c11 | skip
    refine gj_aload_n (pc' := 15) dX10_undo_14 rfl rfl ?_
    refine gj_bipush (pc' := 17) dX10_undo_15 rfl (by decide) ?_
    refine gp_X10_108 (pc' := 20) dX10_undo_17 rfl (by first | rfl | assumption) rfl ?_
    refine gj_iconst (pc' := 21) dX10_undo_20 rfl ?_
    refine gj_zret rfl (by first | rfl | exact gnZ _ | assumption) dX10_undo_21 ?_
    have e : hk = h := k3 (by omega)
    subst e
    exact qXA_n (a := 0) (tr := 6) (by unfold rUndo; rw [if_pos (by omega)]) hX (XS.put _ 6) (by rw [gui_s, up1_s])
theorem x_image {h : gH} {t : Nat} {T : Nat → Nat} {s : gSt} (hX : XST h t T s) : gSp 12 yX10_image cX10_image 2 (some .int) [.ref 0] h (qXA (rImage T s) h t T) := by
  obtain ⟨hQ, hH, hV⟩ := id hX
  obtain ⟨ht, hP, hF, hZ, -⟩ := id hQ
  have htt : t = 6 ∨ t = 29 := ht
  refine gSp_of (by decide +kernel) (Nat.le_of_ble_eq_true rfl) ?_
  show gJ RX10 cX10_image 2 (some .int) _ 0 [some (.ref 0), none] [] _ _
  refine gj_aload_n (pc' := 1) dX10_image_0 rfl rfl ?_
  refine gr_X10_169 (pc' := 4) dX10_image_1 rfl (x_hasTown hQ) rfl (by first | rfl | assumption) (by decide) rfl (Nat.le_of_ble_eq_true rfl) ?_
  first | refine gj_ifB_ne (pc' := 7) (tgt := 13) dX10_image_4 (by decide) rfl (fun c4 => ?_) (fun c4 => ?_) | refine gj_if_ne (pc' := 7) (tgt := 13) dX10_image_4 (by decide) rfl (by omega) (fun c4 => ?_) (fun c4 => ?_)
  · first | have g4 := of_decide_eq_true c4 | have g4 := of_decide_eq_false c4 | skip
    have hI := hQ.ci (by omega)
    obtain ⟨-, -, hT, hS, hA, hB, hN⟩ := id hI
    obtain ⟨v1, v2, v3, v4, v5⟩ := id hV
    refine gj_aload_n (pc' := 14) dX10_image_13 rfl rfl ?_
    refine gf_X10_26 (pc' := 17) dX10_image_14 rfl (by first | rfl | assumption) rfl ?_
    refine gj_aload_n (pc' := 18) dX10_image_17 rfl rfl ?_
    refine gf_X10_19 (pc' := 21) dX10_image_18 rfl (by first | rfl | assumption) rfl ?_
    refine gc_X10_363 (pc' := 24) dX10_image_21 rfl (s_draw (S := s.1) hZ.1 hZ.2.1 hN hH) rfl (by first | rfl | assumption) (by decide) rfl (Nat.le_of_ble_eq_true rfl) (fun v9 h9 q9 => ?_)
    obtain ⟨rfl, k0, k1, k2, k3⟩ := q9
    obtain ⟨hk, rfl⟩ : ∃ x, x = h9 := ⟨h9, rfl⟩
    obtain ⟨r, hr⟩ : ∃ r : Int, r = (if s.2.2.1 = 3 then -1 else (s.2.2.1 : Int)) := ⟨_, rfl⟩
    have hr2 : (r = -1 ∧ s.2.2.1 = 3) ∨ (r = (s.2.2.1 : Int) ∧ s.2.2.1 ≠ 3) := by rw [hr]; split <;> omega
    rw [← hr]
    show gJ _ _ _ _ _ _ _ [.int (zI r)] _ _
    refine gj_istore_n (pc' := 25) dX10_image_24 rfl (by decide) ?_
    refine gj_iload_n (pc' := 26) dX10_image_25 rfl rfl ?_
    refine gj_if_ge (pc' := 29) (tgt := 37) dX10_image_26 (by decide) rfl (by omega) (fun c26 => ?_) (fun c26 => ?_)
    · first | have g26 := of_decide_eq_true c26 | have g26 := of_decide_eq_false c26 | skip
      refine gj_aload_n (pc' := 38) dX10_image_37 rfl rfl ?_
      refine gj_iload_n (pc' := 39) dX10_image_38 rfl rfl ?_
      refine gc_X10_105 (pc' := 42) dX10_image_39 rfl (x_grant) rfl (by first | rfl | assumption) (by decide) rfl (Nat.le_of_ble_eq_true rfl) (fun v9 h9 q9 => ?_)
      obtain ⟨rfl, q9a, q9b⟩ := q9
      show gJ _ _ _ _ _ _ _ (.int (zI _) :: _) _ _
      refine gj_iret rfl dX10_image_42 ?_
      by_cases q : s.2.2.1 = 3
      · have e : hk = h := k2 q
        subst e
        first
        | (exfalso; omega)
        | exact qXA_n (by unfold rImage; rw [if_neg (by omega), if_pos q]) hX q9a q9b
      · first
        | (exfalso; omega)
        | (have e : r = (s.2.2.1 : Int) := by omega
           subst e
           exact qXA_a (s := (s.1, s.2.1, (s.2.2.1 + 1, fun i => if i = s.2.2.1 then s.1 else s.2.2.2 i))) (by unfold rImage; rw [if_neg (by omega), if_neg q]) ⟨k0, fun o o1 o2 _ _ _ _ _ _ _ => k1 o (by omega), fun k _ => congrFun (k1 0 (by omega)) k⟩ ⟨hQ.of (hI.to2 k0 (fun o o1 o2 => k1 o (by omega)) (fun o o1 o2 => k1 o (by omega))) (k1 _ (by omega)), k3 q, ⟨v1, fun i hi => by
             show SV T (if i = s.2.2.1 then s.1 else s.2.2.2 i)
             have hi2 : i < s.2.2.1 + 1 := hi
             by_cases c : i = s.2.2.1
             · rw [if_pos c]; exact hS
             · rw [if_neg c]; exact v2 i (by omega), v3, by show s.2.2.1 + 1 ≤ 3; omega, fun q3 => by omega⟩⟩ q9a q9b)
    · first | have g26 := of_decide_eq_true c26 | have g26 := of_decide_eq_false c26 | skip
      refine gj_aload_n (pc' := 30) dX10_image_29 rfl rfl ?_
      refine gj_iconst (pc' := 31) dX10_image_30 rfl ?_
      refine gc_X10_72 (pc' := 34) dX10_image_31 rfl (x_refuse) rfl (by first | rfl | assumption) (by decide) rfl (Nat.le_of_ble_eq_true rfl) (fun v9 h9 q9 => ?_)
      obtain ⟨rfl, q9a, q9b⟩ := q9
      show gJ _ _ _ _ _ _ _ (.int (zI (-1)) :: _) _ _
      refine gj_goto (pc' := 42) dX10_image_34 (by decide) ?_
      refine gj_iret rfl dX10_image_42 ?_
      by_cases q : s.2.2.1 = 3
      · have e : hk = h := k2 q
        subst e
        first
        | (exfalso; omega)
        | exact qXA_n (by unfold rImage; rw [if_neg (by omega), if_pos q]) hX q9a q9b
      · first
        | (exfalso; omega)
        | (have e : r = (s.2.2.1 : Int) := by omega
           subst e
           exact qXA_a (s := (s.1, s.2.1, (s.2.2.1 + 1, fun i => if i = s.2.2.1 then s.1 else s.2.2.2 i))) (by unfold rImage; rw [if_neg (by omega), if_neg q]) ⟨k0, fun o o1 o2 _ _ _ _ _ _ _ => k1 o (by omega), fun k _ => congrFun (k1 0 (by omega)) k⟩ ⟨hQ.of (hI.to2 k0 (fun o o1 o2 => k1 o (by omega)) (fun o o1 o2 => k1 o (by omega))) (k1 _ (by omega)), k3 q, ⟨v1, fun i hi => by
             show SV T (if i = s.2.2.1 then s.1 else s.2.2.2 i)
             have hi2 : i < s.2.2.1 + 1 := hi
             by_cases c : i = s.2.2.1
             · rw [if_pos c]; exact hS
             · rw [if_neg c]; exact v2 i (by omega), v3, by show s.2.2.1 + 1 ≤ 3; omega, fun q3 => by omega⟩⟩ q9a q9b)
  · first | have g4 := of_decide_eq_true c4 | have g4 := of_decide_eq_false c4 | skip
    refine gj_aload_n (pc' := 8) dX10_image_7 rfl rfl ?_
    refine gj_iconst (pc' := 9) dX10_image_8 rfl ?_
    refine gc_X10_72 (pc' := 12) dX10_image_9 rfl (x_refuse) rfl (by first | rfl | assumption) (by decide) rfl (Nat.le_of_ble_eq_true rfl) (fun v9 h9 q9 => ?_)
    obtain ⟨rfl, q9a, q9b⟩ := q9
    show gJ _ _ _ _ _ _ _ (.int (zI (-1)) :: _) _ _
    refine gj_iret rfl dX10_image_12 ?_
    exact qXA_n (by unfold rImage; rw [if_pos (by omega)]) hX q9a q9b
theorem x_back {h : gH} {t : Nat} {T : Nat → Nat} {s : gSt} {a : Int} (hX : XST h t T s) (ha : inB a) : gSp 12 yX10_back cX10_back 2 (some .boolean) [.ref 0, .int (zI a)] h (qXA (rBack s a) h t T) := by
  obtain ⟨hQ, hH, hV⟩ := id hX
  obtain ⟨ht, hP, hF, hZ, -⟩ := id hQ
  have htt : t = 6 ∨ t = 29 := ht
  refine gSp_of (by decide +kernel) (Nat.le_of_ble_eq_true rfl) ?_
  show gJ RX10 cX10_back 2 (some .boolean) _ 0 [some (.ref 0), some (.int (zI a))] [] _ _
  refine gj_aload_n (pc' := 1) dX10_back_0 rfl rfl ?_
  refine gf_X10_26 (pc' := 4) dX10_back_1 rfl (by first | rfl | assumption) rfl ?_
  refine gj_aload_n (pc' := 5) dX10_back_4 rfl rfl ?_
  refine gf_X10_19 (pc' := 8) dX10_back_5 rfl (by first | rfl | assumption) rfl ?_
  refine gj_iload_n (pc' := 9) dX10_back_8 rfl rfl ?_
  refine gc_X10_367 (pc' := 12) dX10_back_9 rfl (s_restore hZ.1 hZ.2.1 ha hH) rfl (by first | rfl | assumption) (by decide) rfl (Nat.le_of_ble_eq_true rfl) (fun v9 h9 q9 => ?_)
  obtain ⟨rfl, k0, k1, k2, k3⟩ := q9
  obtain ⟨hk, rfl⟩ : ∃ x, x = h9 := ⟨h9, rfl⟩
  show gJ _ _ _ _ _ _ _ [.int (zI (bI (decide (0 ≤ a ∧ a < (s.2.2.1 : Int)))))] _ _
  first | refine gj_ifB_ne (pc' := 15) (tgt := 22) dX10_back_12 (by decide) rfl (fun c12 => ?_) (fun c12 => ?_) | refine gj_if_ne (pc' := 15) (tgt := 22) dX10_back_12 (by decide) rfl (by omega) (fun c12 => ?_) (fun c12 => ?_)
  · first | have g12 := of_decide_eq_true c12 | have g12 := of_decide_eq_false c12 | skip
    refine gj_aload_n (pc' := 23) dX10_back_22 rfl rfl ?_
    refine gj_iconst (pc' := 24) dX10_back_23 rfl ?_
    refine gp_X10_108 (pc' := 27) dX10_back_24 rfl (by first | rfl | assumption) rfl ?_
    refine gj_iconst (pc' := 28) dX10_back_27 rfl ?_
    refine gj_zret rfl (by first | rfl | exact gnZ _ | assumption) dX10_back_28 ?_
    obtain ⟨v1, v2, v3, v4, v5⟩ := hV
    have hI := hQ.ci (by omega)
    obtain ⟨kh, kp⟩ := k3 (by omega)
    have hI1 : CI hk t T (s.2.2.2 a.toNat) := hI.to k0 (fun o o1 => k1 o (by omega)) (v2 _ (by omega)) kp
    exact qXA_a (s := (s.2.2.2 a.toNat, (0, s.2.1.2), s.2.2)) (a := 1) (tr := 0) (by unfold rBack; rw [if_pos (by omega)]) ⟨k0, fun o o1 o2 _ _ _ _ _ _ _ => k1 o (by omega), fun k _ => congrFun (k1 0 (by omega)) k⟩ ⟨hQ.of hI1 (k1 _ (by omega)), kh, ⟨fun k hk2 => absurd hk2 (Nat.not_lt_zero k), v2, Nat.zero_le _, v4, fun q => ⟨rfl, (v5 q).2⟩⟩⟩ (XS.put _ 0) (by rw [gui_s, up1_s])
  · first | have g12 := of_decide_eq_true c12 | have g12 := of_decide_eq_false c12 | skip
    refine gj_aload_n (pc' := 16) dX10_back_15 rfl rfl ?_
    refine gj_iconst (pc' := 17) dX10_back_16 rfl ?_
    refine gp_X10_108 (pc' := 20) dX10_back_17 rfl (by first | rfl | assumption) rfl ?_
    refine gj_iconst (pc' := 21) dX10_back_20 rfl ?_
    refine gj_zret rfl (by first | rfl | exact gnZ _ | assumption) dX10_back_21 ?_
    have e : hk = h := k2 (by omega)
    subst e
    exact qXA_n (a := 0) (tr := 1) (by unfold rBack; rw [if_neg (by omega)]) hX (XS.put _ 1) (by rw [gui_s, up1_s])
