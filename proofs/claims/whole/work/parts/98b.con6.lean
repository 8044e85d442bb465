/-! constructors: the book of acts -/
def presE (aC : Nat → ClassId) (b : Nat) : List va_E := [.inr (2, [.int 0, .int 0, .int 0, .ref (b + 1), .ref (b + 2), .ref (b + 3)]), iA aC 6, iA aC 6, iA aC 7]
def presL (aC : Nat → ClassId) (b : Nat) : Nat → List va_E
  | 0 => []
  | k + 1 => presL aC b k ++ presE aC (b + 4 * k)
def fQ (b : Nat) : Nat → Nat → Option Nat
  | 0 => fun _ => none
  | k + 1 => va_up (fQ b k) k (some (b + 4 * k))
theorem presL_len {aC : Nat → ClassId} {b : Nat} : ∀ k, (presL aC b k).length = 4 * k
  | 0 => rfl
  | k + 1 => by
    show (presL aC b k ++ presE aC (b + 4 * k)).length = _
    rw [List.length_append, presL_len k]
    show 4 * k + 4 = _
    omega
def histE (aC : Nat → ClassId) (z k m : Nat) : List va_E := [qA aC 3 16 (fQ (z + 2) k), qA aC 3 3 (fQ (z + 66) m)] ++ presL aC (z + 2) (k + m)
theorem histE_len {aC : Nat → ClassId} {z k m : Nat} : (histE aC z k m).length = 2 + 4 * (k + m) := by
  unfold histE
  rw [List.length_append, presL_len]
  rfl
def hFs (z : Nat) : List Value := [.ref z, .ref (z + 1), .int 0, .int 0, .int 0]
def histX (aC : Nat → ClassId) (z : Nat) : List va_E := [qA aC 3 16 (fQ (z + 2) 16), qA aC 3 3 (fQ (z + 66) 3), .inr (2, [.int 0, .int 0, .int 0, .ref (z + 3), .ref (z + 4), .ref (z + 5)]), iA aC 6, iA aC 6, iA aC 7, .inr (2, [.int 0, .int 0, .int 0, .ref (z + 7), .ref (z + 8), .ref (z + 9)]), iA aC 6, iA aC 6, iA aC 7, .inr (2, [.int 0, .int 0, .int 0, .ref (z + 11), .ref (z + 12), .ref (z + 13)]), iA aC 6, iA aC 6, iA aC 7, .inr (2, [.int 0, .int 0, .int 0, .ref (z + 15), .ref (z + 16), .ref (z + 17)]), iA aC 6, iA aC 6, iA aC 7, .inr (2, [.int 0, .int 0, .int 0, .ref (z + 19), .ref (z + 20), .ref (z + 21)]), iA aC 6, iA aC 6, iA aC 7, .inr (2, [.int 0, .int 0, .int 0, .ref (z + 23), .ref (z + 24), .ref (z + 25)]), iA aC 6, iA aC 6, iA aC 7, .inr (2, [.int 0, .int 0, .int 0, .ref (z + 27), .ref (z + 28), .ref (z + 29)]), iA aC 6, iA aC 6, iA aC 7, .inr (2, [.int 0, .int 0, .int 0, .ref (z + 31), .ref (z + 32), .ref (z + 33)]), iA aC 6, iA aC 6, iA aC 7, .inr (2, [.int 0, .int 0, .int 0, .ref (z + 35), .ref (z + 36), .ref (z + 37)]), iA aC 6, iA aC 6, iA aC 7, .inr (2, [.int 0, .int 0, .int 0, .ref (z + 39), .ref (z + 40), .ref (z + 41)]), iA aC 6, iA aC 6, iA aC 7, .inr (2, [.int 0, .int 0, .int 0, .ref (z + 43), .ref (z + 44), .ref (z + 45)]), iA aC 6, iA aC 6, iA aC 7, .inr (2, [.int 0, .int 0, .int 0, .ref (z + 47), .ref (z + 48), .ref (z + 49)]), iA aC 6, iA aC 6, iA aC 7, .inr (2, [.int 0, .int 0, .int 0, .ref (z + 51), .ref (z + 52), .ref (z + 53)]), iA aC 6, iA aC 6, iA aC 7, .inr (2, [.int 0, .int 0, .int 0, .ref (z + 55), .ref (z + 56), .ref (z + 57)]), iA aC 6, iA aC 6, iA aC 7, .inr (2, [.int 0, .int 0, .int 0, .ref (z + 59), .ref (z + 60), .ref (z + 61)]), iA aC 6, iA aC 6, iA aC 7, .inr (2, [.int 0, .int 0, .int 0, .ref (z + 63), .ref (z + 64), .ref (z + 65)]), iA aC 6, iA aC 6, iA aC 7, .inr (2, [.int 0, .int 0, .int 0, .ref (z + 67), .ref (z + 68), .ref (z + 69)]), iA aC 6, iA aC 6, iA aC 7, .inr (2, [.int 0, .int 0, .int 0, .ref (z + 71), .ref (z + 72), .ref (z + 73)]), iA aC 6, iA aC 6, iA aC 7, .inr (2, [.int 0, .int 0, .int 0, .ref (z + 75), .ref (z + 76), .ref (z + 77)]), iA aC 6, iA aC 6, iA aC 7]
theorem presE_e {aC : Nat → ClassId} {z b : Nat} {x : Nat} (h : x = z + b) : presE aC x = [.inr (2, [.int 0, .int 0, .int 0, .ref (z + (b + 1)), .ref (z + (b + 2)), .ref (z + (b + 3))]), iA aC 6, iA aC 6, iA aC 7] := by
  subst h
  rfl
set_option maxRecDepth 20000 in
theorem histX_e {aC : Nat → ClassId} {z : Nat} : histE aC z 16 3 = histX aC z := by
  unfold histE
  show _ ++ presL aC (z + 2) 19 = _
  rw [show presL aC (z + 2) 19 = presL aC (z + 2) 18 ++ presE aC (z + 2 + 4 * 18) from rfl, presE_e (z := z) (b := 74) (x := z + 2 + 4 * 18) (by omega)]
  rw [show presL aC (z + 2) 18 = presL aC (z + 2) 17 ++ presE aC (z + 2 + 4 * 17) from rfl, presE_e (z := z) (b := 70) (x := z + 2 + 4 * 17) (by omega)]
  rw [show presL aC (z + 2) 17 = presL aC (z + 2) 16 ++ presE aC (z + 2 + 4 * 16) from rfl, presE_e (z := z) (b := 66) (x := z + 2 + 4 * 16) (by omega)]
  rw [show presL aC (z + 2) 16 = presL aC (z + 2) 15 ++ presE aC (z + 2 + 4 * 15) from rfl, presE_e (z := z) (b := 62) (x := z + 2 + 4 * 15) (by omega)]
  rw [show presL aC (z + 2) 15 = presL aC (z + 2) 14 ++ presE aC (z + 2 + 4 * 14) from rfl, presE_e (z := z) (b := 58) (x := z + 2 + 4 * 14) (by omega)]
  rw [show presL aC (z + 2) 14 = presL aC (z + 2) 13 ++ presE aC (z + 2 + 4 * 13) from rfl, presE_e (z := z) (b := 54) (x := z + 2 + 4 * 13) (by omega)]
  rw [show presL aC (z + 2) 13 = presL aC (z + 2) 12 ++ presE aC (z + 2 + 4 * 12) from rfl, presE_e (z := z) (b := 50) (x := z + 2 + 4 * 12) (by omega)]
  rw [show presL aC (z + 2) 12 = presL aC (z + 2) 11 ++ presE aC (z + 2 + 4 * 11) from rfl, presE_e (z := z) (b := 46) (x := z + 2 + 4 * 11) (by omega)]
  rw [show presL aC (z + 2) 11 = presL aC (z + 2) 10 ++ presE aC (z + 2 + 4 * 10) from rfl, presE_e (z := z) (b := 42) (x := z + 2 + 4 * 10) (by omega)]
  rw [show presL aC (z + 2) 10 = presL aC (z + 2) 9 ++ presE aC (z + 2 + 4 * 9) from rfl, presE_e (z := z) (b := 38) (x := z + 2 + 4 * 9) (by omega)]
  rw [show presL aC (z + 2) 9 = presL aC (z + 2) 8 ++ presE aC (z + 2 + 4 * 8) from rfl, presE_e (z := z) (b := 34) (x := z + 2 + 4 * 8) (by omega)]
  rw [show presL aC (z + 2) 8 = presL aC (z + 2) 7 ++ presE aC (z + 2 + 4 * 7) from rfl, presE_e (z := z) (b := 30) (x := z + 2 + 4 * 7) (by omega)]
  rw [show presL aC (z + 2) 7 = presL aC (z + 2) 6 ++ presE aC (z + 2 + 4 * 6) from rfl, presE_e (z := z) (b := 26) (x := z + 2 + 4 * 6) (by omega)]
  rw [show presL aC (z + 2) 6 = presL aC (z + 2) 5 ++ presE aC (z + 2 + 4 * 5) from rfl, presE_e (z := z) (b := 22) (x := z + 2 + 4 * 5) (by omega)]
  rw [show presL aC (z + 2) 5 = presL aC (z + 2) 4 ++ presE aC (z + 2 + 4 * 4) from rfl, presE_e (z := z) (b := 18) (x := z + 2 + 4 * 4) (by omega)]
  rw [show presL aC (z + 2) 4 = presL aC (z + 2) 3 ++ presE aC (z + 2 + 4 * 3) from rfl, presE_e (z := z) (b := 14) (x := z + 2 + 4 * 3) (by omega)]
  rw [show presL aC (z + 2) 3 = presL aC (z + 2) 2 ++ presE aC (z + 2 + 4 * 2) from rfl, presE_e (z := z) (b := 10) (x := z + 2 + 4 * 2) (by omega)]
  rw [show presL aC (z + 2) 2 = presL aC (z + 2) 1 ++ presE aC (z + 2 + 4 * 1) from rfl, presE_e (z := z) (b := 6) (x := z + 2 + 4 * 1) (by omega)]
  rw [show presL aC (z + 2) 1 = presL aC (z + 2) 0 ++ presE aC (z + 2 + 4 * 0) from rfl, presE_e (z := z) (b := 2) (x := z + 2 + 4 * 0) (by omega)]
  rfl
def nF_X2 (aC : Nat → ClassId) (z : Nat) : List Value × List va_E := (hFs z, histX aC z)
theorem okn_X2 : gOkM yX2_init 0 := ⟨by decide +kernel, by decide +kernel, by decide +kernel⟩
theorem n_hist1 {aC : Nat → ClassId} {a z : Nat} {F : List Value × List va_E} (kx : gN RX2 cX2_init 2 2 78 494 aC a z 1 419 48 [some (.ref a), none] [] (hFs z) (histE aC z 16 0) F) : ∀ m k, k + m = 16 → gN RX2 cX2_init 2 2 78 494 aC a z 1 (19 + 25 * k) 23 [some (.ref a), some (.int (zI (k : Int)))] [] (hFs z) (histE aC z k 0) F := by
  intro m
  induction m with
  | zero =>
    intro k hk
    have e : k = 16 := by omega
    subst e
    refine gn_iload1 (pc' := 24) dX2_init_23 rfl rfl ?_
    refine gn_bipush (pc' := 26) dX2_init_24 rfl (by decide) ?_
    refine gn_icmp_ge (pc' := 29) (tgt := 48) dX2_init_26 (by decide) rfl (by decide) (by decide) (fun _ => ?_) (fun w => absurd w (by decide))
    exact gn_wk kx (by exact ⟨rfl, True.intro⟩)
  | succ m ih =>
    intro k hk
    refine gn_iload1 (pc' := 24) dX2_init_23 rfl rfl ?_
    refine gn_bipush (pc' := 26) dX2_init_24 rfl (by decide) ?_
    refine gn_icmp_ge (pc' := 29) (tgt := 48) dX2_init_26 (by decide) rfl (by omega) (by decide) (fun w => by exfalso; omega) (fun _ => ?_)
    have hl := histE_len (aC := aC) (z := z) (k := k) (m := 0)
    obtain ⟨E, hE⟩ : ∃ E, E = histE aC z k 0 := ⟨_, rfl⟩
    have h0 : E[0]? = some (.inl (aC 3, 16, .inr (.inr (.inr (.inr (fQ (z + 2) k)))))) := by rw [hE]; rfl
    rw [← hE] at hl ⊢
    refine gn_aload0 (pc' := 30) dX2_init_29 rfl rfl ?_
    refine gn_get0 (pc' := 33) (C' := RX2) (T := TX2) (N := 5) (k := 0) (x := z + 0) dX2_init_30 rfl (gtb_at 299 (by decide +kernel) rfl) iX2g rfl (by decide) rfl ?_
    refine gn_iload1 (pc' := 34) dX2_init_33 rfl rfl ?_
    refine gn_new (pc' := 37) (C' := RX3) (T := TX3) (N := 6) (cj := 2) (f0 := dfX3) dX2_init_34 rfl (gtb_at 296 (by decide +kernel) rfl) (gtb_at 262 (by decide +kernel) rfl) (gtb_at 6 (by decide +kernel) rfl) tyX3 tyX3_ok iX3g rfl dfX3_ok (by omega) (by omega) ?_
    refine gn_dup (pc' := 38) dX2_init_37 rfl rfl ?_
    refine gn_initN (pc' := 41) (host := "GrudgeLoft") n_X3 dX2_init_38 rfl rfl okn_X3 (gtb_at 298 (by decide +kernel) rfl) (gtb_at 264 (by decide +kernel) rfl) (gtb_at 6 (by decide +kernel) rfl) (gtb_at 265 (by decide +kernel) rfl) (by decide) (by decide) (Nat.le_of_ble_eq_true rfl) rfl (by omega) (by omega) ?_
    refine gn_aast (pc' := 42) (j := 0) (i := E.length) (N := 16) (k := k) (f := fQ (z + 2) k) (vs := (nF_X3 aC (z + (E.length + 1))).1) dX2_init_41 rfl rfl ?_ ?_ rfl (by omega) (by decide) ?_
    · rw [List.append_assoc, List.getElem?_append_left (by omega)]
      exact h0
    · rw [List.append_assoc, List.getElem?_append_right (Nat.le_refl _), Nat.sub_self]
      rfl
    refine gn_iinc1 (pc' := 45) dX2_init_42 rfl rfl (by decide) ?_
    refine gn_goto (pc' := 23) dX2_init_45 (by decide) ?_
    have e1 : (E ++ [(.inr (2, (nF_X3 aC (z + (E.length + 1))).1) : va_E)] ++ (nF_X3 aC (z + (E.length + 1))).2).set 0 (.inl (aC 3, 16, .inr (.inr (.inr (.inr (va_up (fQ (z + 2) k) k (some (z + E.length)))))))) = histE aC z (k + 1) 0 := by
      rw [hl, hE]
      show _ = [qA aC 3 16 (va_up (fQ (z + 2) k) k (some (z + 2 + 4 * k))), qA aC 3 3 (fQ (z + 66) 0)] ++ (presL aC (z + 2) (k) ++ presE aC (z + 2 + 4 * (k)))
      rw [show z + (2 + 4 * (k + 0)) = z + 2 + 4 * k by omega, show z + 2 + 4 * (k) = z + (2 + 4 * (k + 0)) by omega, ← List.append_assoc, List.append_assoc (histE aC z k 0)]
      rfl
    rw [e1]
    have w := ih (k + 1) (by omega)
    rw [show 19 + 25 * (k + 1) = 19 + 25 * k + 6 + 19 by omega] at w
    exact gn_wk w (by exact ⟨rfl, rfl, True.intro⟩)
theorem n_hist2 {aC : Nat → ClassId} {a z : Nat} {F : List Value × List va_E} (kx : gN RX2 cX2_init 2 2 78 494 aC a z 1 494 74 [some (.ref a), none] [] (hFs z) (histE aC z 16 3) F) : ∀ m k, k + m = 3 → gN RX2 cX2_init 2 2 78 494 aC a z 1 (419 + 25 * k) 50 [some (.ref a), some (.int (zI (k : Int)))] [] (hFs z) (histE aC z 16 k) F := by
  intro m
  induction m with
  | zero =>
    intro k hk
    have e : k = 3 := by omega
    subst e
    refine gn_iload1 (pc' := 51) dX2_init_50 rfl rfl ?_
    refine gn_iconst (pc' := 52) dX2_init_51 rfl ?_
    refine gn_icmp_ge (pc' := 55) (tgt := 74) dX2_init_52 (by decide) rfl (by decide) (by decide) (fun _ => ?_) (fun w => absurd w (by decide))
    exact gn_wk kx (by exact ⟨rfl, True.intro⟩)
  | succ m ih =>
    intro k hk
    refine gn_iload1 (pc' := 51) dX2_init_50 rfl rfl ?_
    refine gn_iconst (pc' := 52) dX2_init_51 rfl ?_
    refine gn_icmp_ge (pc' := 55) (tgt := 74) dX2_init_52 (by decide) rfl (by omega) (by decide) (fun w => by exfalso; omega) (fun _ => ?_)
    have hl := histE_len (aC := aC) (z := z) (k := 16) (m := k)
    obtain ⟨E, hE⟩ : ∃ E, E = histE aC z 16 k := ⟨_, rfl⟩
    have h0 : E[1]? = some (.inl (aC 3, 3, .inr (.inr (.inr (.inr (fQ (z + 66) k)))))) := by rw [hE]; rfl
    rw [← hE] at hl ⊢
    refine gn_aload0 (pc' := 56) dX2_init_55 rfl rfl ?_
    refine gn_get0 (pc' := 59) (C' := RX2) (T := TX2) (N := 5) (k := 1) (x := z + 1) dX2_init_56 rfl (gtb_at 300 (by decide +kernel) rfl) iX2g rfl (by decide) rfl ?_
    refine gn_iload1 (pc' := 60) dX2_init_59 rfl rfl ?_
    refine gn_new (pc' := 63) (C' := RX3) (T := TX3) (N := 6) (cj := 2) (f0 := dfX3) dX2_init_60 rfl (gtb_at 296 (by decide +kernel) rfl) (gtb_at 262 (by decide +kernel) rfl) (gtb_at 6 (by decide +kernel) rfl) tyX3 tyX3_ok iX3g rfl dfX3_ok (by omega) (by omega) ?_
    refine gn_dup (pc' := 64) dX2_init_63 rfl rfl ?_
    refine gn_initN (pc' := 67) (host := "GrudgeLoft") n_X3 dX2_init_64 rfl rfl okn_X3 (gtb_at 298 (by decide +kernel) rfl) (gtb_at 264 (by decide +kernel) rfl) (gtb_at 6 (by decide +kernel) rfl) (gtb_at 265 (by decide +kernel) rfl) (by decide) (by decide) (Nat.le_of_ble_eq_true rfl) rfl (by omega) (by omega) ?_
    refine gn_aast (pc' := 68) (j := 1) (i := E.length) (N := 3) (k := k) (f := fQ (z + 66) k) (vs := (nF_X3 aC (z + (E.length + 1))).1) dX2_init_67 rfl rfl ?_ ?_ rfl (by omega) (by decide) ?_
    · rw [List.append_assoc, List.getElem?_append_left (by omega)]
      exact h0
    · rw [List.append_assoc, List.getElem?_append_right (Nat.le_refl _), Nat.sub_self]
      rfl
    refine gn_iinc1 (pc' := 71) dX2_init_68 rfl rfl (by decide) ?_
    refine gn_goto (pc' := 50) dX2_init_71 (by decide) ?_
    have e1 : (E ++ [(.inr (2, (nF_X3 aC (z + (E.length + 1))).1) : va_E)] ++ (nF_X3 aC (z + (E.length + 1))).2).set 1 (.inl (aC 3, 3, .inr (.inr (.inr (.inr (va_up (fQ (z + 66) k) k (some (z + E.length)))))))) = histE aC z 16 (k + 1) := by
      rw [hl, hE]
      show _ = [qA aC 3 16 (fQ (z + 2) 16), qA aC 3 3 (va_up (fQ (z + 66) k) k (some (z + 66 + 4 * k)))] ++ (presL aC (z + 2) (16 + k) ++ presE aC (z + 2 + 4 * (16 + k)))
      rw [show z + (2 + 4 * (16 + k)) = z + 66 + 4 * k by omega, show z + 2 + 4 * (16 + k) = z + (2 + 4 * (16 + k)) by omega, ← List.append_assoc, List.append_assoc (histE aC z 16 k)]
      rfl
    rw [e1]
    have w := ih (k + 1) (by omega)
    rw [show 419 + 25 * (k + 1) = 419 + 25 * k + 6 + 19 by omega] at w
    exact gn_wk w (by exact ⟨rfl, rfl, True.intro⟩)
set_option maxRecDepth 20000 in
theorem n_X2 : nSp 2 yX2_init cX2_init 2 1 78 494 dfX2 nF_X2 := by
  refine nSp_of (by decide +kernel) rfl (by decide) (fun aC a z => ?_)
  show gN RX2 cX2_init 2 2 78 494 aC a z 1 0 0 [some (.ref a), none] [] dfX2 [] _
  refine gn_aload0 (pc' := 1) dX2_init_0 rfl rfl ?_
  refine gn_obj (pc' := 4) dX2_init_1 rfl (gtb_at 295 (by decide +kernel) rfl) (gtb_at 30 (by decide +kernel) rfl) (gtb_at 31 (by decide +kernel) rfl) (by decide) (Nat.le_of_ble_eq_true rfl) ?_
  refine gn_aload0 (pc' := 5) dX2_init_4 rfl rfl ?_
  refine gn_bipush (pc' := 7) dX2_init_5 rfl (by decide) ?_
  refine gn_newq (pc' := 10) (N := 16) dX2_init_7 rfl (gtb_at 296 (by decide +kernel) rfl) rfl (Nat.le_of_ble_eq_true rfl) (Nat.le_of_ble_eq_true rfl) (Nat.le_of_ble_eq_true rfl) ?_
  refine gn_putF (pc' := 13) (C' := RX2) (T := TX2) (N := 5) (k := 0) (ty := .array (.object RX3)) dX2_init_10 rfl (gtb_at 299 (by decide +kernel) rfl) tyX2 tyX2_ok nmX2 iX2g rfl (by decide) rfl rfl (by decide +kernel) rfl rfl (Nat.le_of_ble_eq_true rfl) ?_
  refine gn_aload0 (pc' := 14) dX2_init_13 rfl rfl ?_
  refine gn_iconst (pc' := 15) dX2_init_14 rfl ?_
  refine gn_newq (pc' := 18) (N := 3) dX2_init_15 rfl (gtb_at 296 (by decide +kernel) rfl) rfl (Nat.le_of_ble_eq_true rfl) (Nat.le_of_ble_eq_true rfl) (Nat.le_of_ble_eq_true rfl) ?_
  refine gn_putF (pc' := 21) (C' := RX2) (T := TX2) (N := 5) (k := 1) (ty := .array (.object RX3)) dX2_init_18 rfl (gtb_at 300 (by decide +kernel) rfl) tyX2 tyX2_ok nmX2 iX2g rfl (by decide) rfl rfl (by decide +kernel) rfl rfl (Nat.le_of_ble_eq_true rfl) ?_
  refine gn_iconst (pc' := 22) dX2_init_21 rfl ?_
  refine gn_istore1 (pc' := 23) dX2_init_22 rfl (by decide) ?_
  refine gn_wk (n_hist1 ?_ 16 0 rfl) (by exact ⟨rfl, rfl, True.intro⟩)
  refine gn_iconst (pc' := 49) dX2_init_48 rfl ?_
  refine gn_istore1 (pc' := 50) dX2_init_49 rfl (by decide) ?_
  refine gn_wk (n_hist2 ?_ 3 0 rfl) (by exact ⟨rfl, rfl, True.intro⟩)
  exact gn_ret dX2_init_74 histE_len rfl (by rw [histX_e]; rfl)
