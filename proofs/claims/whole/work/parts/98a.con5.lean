/-! constructors: their contracts -/
def iA (aC : Nat → ClassId) (N : Nat) : va_E := .inl (aC 0, N, .inl (fun _ => 0))
def bA (aC : Nat → ClassId) (N : Nat) : va_E := .inl (aC 1, N, .inl (fun _ => 0))
def lgA (aC : Nat → ClassId) (N : Nat) : va_E := .inl (aC 2, N, .inr (.inl (fun _ => 0)))
def qA (aC : Nat → ClassId) (k N : Nat) (f : Nat → Option Nat) : va_E := .inl (aC k, N, .inr (.inr (.inr (.inr f))))
def dfX0 : List Value := [.null, .null]
theorem dfX0_ok : ∀ j, j < 2 → defaultValue (tyX0 j) = vp_V dfX0 j := by
  intro j hj
  rcases (show j = 0 ∨ j = 1 by omega) with rfl | rfl <;> rfl
def dfX2 : List Value := [.null, .null, .int 0, .int 0, .int 0]
theorem dfX2_ok : ∀ j, j < 5 → defaultValue (tyX2 j) = vp_V dfX2 j := by
  intro j hj
  rcases (show j = 0 ∨ j = 1 ∨ j = 2 ∨ j = 3 ∨ j = 4 by omega) with rfl | rfl | rfl | rfl | rfl <;> rfl
def dfX3 : List Value := [.int 0, .int 0, .int 0, .null, .null, .null]
theorem dfX3_ok : ∀ j, j < 6 → defaultValue (tyX3 j) = vp_V dfX3 j := by
  intro j hj
  rcases (show j = 0 ∨ j = 1 ∨ j = 2 ∨ j = 3 ∨ j = 4 ∨ j = 5 by omega) with rfl | rfl | rfl | rfl | rfl | rfl <;> rfl
def dfX4 : List Value := [.null, .null, .null, .int 0, .int 0, .int 0, .int 0, .int 0, .null]
theorem dfX4_ok : ∀ j, j < 9 → defaultValue (tyX4 j) = vp_V dfX4 j := by
  intro j hj
  rcases (show j = 0 ∨ j = 1 ∨ j = 2 ∨ j = 3 ∨ j = 4 ∨ j = 5 ∨ j = 6 ∨ j = 7 ∨ j = 8 by omega) with rfl | rfl | rfl | rfl | rfl | rfl | rfl | rfl | rfl <;> rfl
def dfX5 : List Value := [.null, .null]
theorem dfX5_ok : ∀ j, j < 2 → defaultValue (tyX5 j) = vp_V dfX5 j := by
  intro j hj
  rcases (show j = 0 ∨ j = 1 by omega) with rfl | rfl <;> rfl
def dfX6 : List Value := [.int 0]
theorem dfX6_ok : ∀ j, j < 1 → defaultValue (tyX6 j) = vp_V dfX6 j := by
  intro j hj
  have : j = 0 := by omega
  subst this
  rfl
def dfX7 : List Value := [.int 0, .null, .null, .null, .int 0, .null, .null, .null, .null, .int 0, .null, .null]
theorem dfX7_ok : ∀ j, j < 12 → defaultValue (tyX7 j) = vp_V dfX7 j := by
  intro j hj
  rcases (show j = 0 ∨ j = 1 ∨ j = 2 ∨ j = 3 ∨ j = 4 ∨ j = 5 ∨ j = 6 ∨ j = 7 ∨ j = 8 ∨ j = 9 ∨ j = 10 ∨ j = 11 by omega) with rfl | rfl | rfl | rfl | rfl | rfl | rfl | rfl | rfl | rfl | rfl | rfl <;> rfl
def dfX8 : List Value := [.null, .int 0, .int 0, .int 0, .int 0, .int 0, .int 0, .long 0]
theorem dfX8_ok : ∀ j, j < 8 → defaultValue (tyX8 j) = vp_V dfX8 j := by
  intro j hj
  rcases (show j = 0 ∨ j = 1 ∨ j = 2 ∨ j = 3 ∨ j = 4 ∨ j = 5 ∨ j = 6 ∨ j = 7 by omega) with rfl | rfl | rfl | rfl | rfl | rfl | rfl | rfl <;> rfl
def dfX9 : List Value := [.int 0, .int 0, .int 0, .int 0, .int 0, .null, .null, .null, .null, .null, .null, .null, .null, .null, .null]
theorem dfX9_ok : ∀ j, j < 15 → defaultValue (tyX9 j) = vp_V dfX9 j := by
  intro j hj
  rcases (show j = 0 ∨ j = 1 ∨ j = 2 ∨ j = 3 ∨ j = 4 ∨ j = 5 ∨ j = 6 ∨ j = 7 ∨ j = 8 ∨ j = 9 ∨ j = 10 ∨ j = 11 ∨ j = 12 ∨ j = 13 ∨ j = 14 by omega) with rfl | rfl | rfl | rfl | rfl | rfl | rfl | rfl | rfl | rfl | rfl | rfl | rfl | rfl | rfl <;> rfl
def dfX10 : List Value := [.null, .null, .null, .null, .null, .null, .null, .int 0, .int 0, .int 0]
theorem dfX10_ok : ∀ j, j < 10 → defaultValue (tyX10 j) = vp_V dfX10 j := by
  intro j hj
  rcases (show j = 0 ∨ j = 1 ∨ j = 2 ∨ j = 3 ∨ j = 4 ∨ j = 5 ∨ j = 6 ∨ j = 7 ∨ j = 8 ∨ j = 9 by omega) with rfl | rfl | rfl | rfl | rfl | rfl | rfl | rfl | rfl | rfl <;> rfl
def dfX11 : List Value := [.int 0, .null, .int 0, .int 0, .int 0, .int 0, .int 0, .int 0, .int 0, .int 0, .int 0, .int 0, .null, .int 0, .int 0, .null, .null, .null, .null, .null, .int 0, .int 0, .null, .null, .int 0, .int 0, .null, .null, .null, .null, .int 0, .int 0, .int 0, .int 0, .int 0]
theorem dfX11_ok : ∀ j, j < 35 → defaultValue (tyX11 j) = vp_V dfX11 j := by
  intro j hj
  rcases (show j = 0 ∨ j = 1 ∨ j = 2 ∨ j = 3 ∨ j = 4 ∨ j = 5 ∨ j = 6 ∨ j = 7 ∨ j = 8 ∨ j = 9 ∨ j = 10 ∨ j = 11 ∨ j = 12 ∨ j = 13 ∨ j = 14 ∨ j = 15 ∨ j = 16 ∨ j = 17 ∨ j = 18 ∨ j = 19 ∨ j = 20 ∨ j = 21 ∨ j = 22 ∨ j = 23 ∨ j = 24 ∨ j = 25 ∨ j = 26 ∨ j = 27 ∨ j = 28 ∨ j = 29 ∨ j = 30 ∨ j = 31 ∨ j = 32 ∨ j = 33 ∨ j = 34 by omega) with rfl | rfl | rfl | rfl | rfl | rfl | rfl | rfl | rfl | rfl | rfl | rfl | rfl | rfl | rfl | rfl | rfl | rfl | rfl | rfl | rfl | rfl | rfl | rfl | rfl | rfl | rfl | rfl | rfl | rfl | rfl | rfl | rfl | rfl | rfl <;> rfl
def nF_X8 (aC : Nat → ClassId) (z : Nat) : List Value × List va_E := ([.ref (z + 0), .int 0, .int 0, .int 0, .int 0, .int 0, .int 0, .long 0], [bA aC 900])
theorem okn_X8 : gOkM yX8_init 0 := ⟨by decide +kernel, by decide +kernel, by decide +kernel⟩
set_option maxRecDepth 20000 in
theorem n_X8 : nSp 1 yX8_init cX8_init 1 7 1 900 dfX8 nF_X8 := by
  refine nSp_of (by decide +kernel) rfl (by decide) (fun aC a z => ?_)
  show gN RX8 cX8_init 1 1 1 900 aC a z 7 0 0 [some (.ref a)] [] dfX8 [] _
  refine gn_aload0 (pc' := 1) dX8_init_0 rfl rfl ?_
  refine gn_obj (pc' := 4) dX8_init_1 rfl (gtb_at 43 (by decide +kernel) rfl) (gtb_at 30 (by decide +kernel) rfl) (gtb_at 31 (by decide +kernel) rfl) (by decide) (Nat.le_of_ble_eq_true rfl) ?_
  refine gn_aload0 (pc' := 5) dX8_init_4 rfl rfl ?_
  refine gn_sipush (pc' := 8) dX8_init_5 rfl (by decide) ?_
  refine gn_newa (pc' := 10) (atype := .byte) (ty := .byte) (k := 1) (N := 900) (a0 := ((900, .inl (fun _ => 0)) : vp_A)) dX8_init_8 rfl rfl rfl (gtb_at 74 (by decide +kernel) rfl) (fun _ => rfl) (Nat.le_of_ble_eq_true rfl) (Nat.le_of_ble_eq_true rfl) (Nat.le_of_ble_eq_true rfl) (Nat.le_of_ble_eq_true rfl) ?_
  refine gn_putF (pc' := 13) (C' := RX8) (T := TX8) (N := 8) (k := 0) (ty := (.array .byte)) dX8_init_10 rfl (gtb_at 44 (by decide +kernel) rfl) tyX8 tyX8_ok nmX8 iX8g rfl (by decide) rfl rfl (by decide +kernel) rfl rfl (Nat.le_of_ble_eq_true rfl) ?_
  exact gn_ret dX8_init_13 rfl rfl rfl
def nF_X7 (aC : Nat → ClassId) (z : Nat) : List Value × List va_E := ([.int 0, .ref (z + 0), .ref (z + 1), .ref (z + 2), .int 0, .ref (z + 6), .ref (z + 7), .ref (z + 8), .ref (z + 9), .int 0, .ref (z + 10), .ref (z + 11)], [iA aC 3, iA aC 3, qA aC 4 3 (fun i => if i < 3 then some (z + 2 + 1 + i) else none), iA aC 6, iA aC 6, iA aC 6, iA aC 5, iA aC 5, iA aC 5, iA aC 5, iA aC 125, iA aC 4])
theorem okn_X7 : gOkM yX7_init 0 := ⟨by decide +kernel, by decide +kernel, by decide +kernel⟩
set_option maxRecDepth 20000 in
theorem n_X7 : nSp 1 yX7_init cX7_init 1 6 12 176 dfX7 nF_X7 := by
  refine nSp_of (by decide +kernel) rfl (by decide) (fun aC a z => ?_)
  show gN RX7 cX7_init 1 1 12 176 aC a z 6 0 0 [some (.ref a)] [] dfX7 [] _
  refine gn_aload0 (pc' := 1) dX7_init_0 rfl rfl ?_
  refine gn_obj (pc' := 4) dX7_init_1 rfl (gtb_at 86 (by decide +kernel) rfl) (gtb_at 30 (by decide +kernel) rfl) (gtb_at 31 (by decide +kernel) rfl) (by decide) (Nat.le_of_ble_eq_true rfl) ?_
  refine gn_aload0 (pc' := 5) dX7_init_4 rfl rfl ?_
  refine gn_iconst (pc' := 6) dX7_init_5 rfl ?_
  refine gn_newa (pc' := 8) (atype := .int) (ty := .int) (k := 0) (N := 3) (a0 := ((3, .inl (fun _ => 0)) : vp_A)) dX7_init_6 rfl rfl rfl (gtb_at 138 (by decide +kernel) rfl) (fun _ => rfl) (Nat.le_of_ble_eq_true rfl) (Nat.le_of_ble_eq_true rfl) (Nat.le_of_ble_eq_true rfl) (Nat.le_of_ble_eq_true rfl) ?_
  refine gn_putF (pc' := 11) (C' := RX7) (T := TX7) (N := 12) (k := 1) (ty := (.array .int)) dX7_init_8 rfl (gtb_at 92 (by decide +kernel) rfl) tyX7 tyX7_ok nmX7 iX7g rfl (by decide) rfl rfl (by decide +kernel) rfl rfl (Nat.le_of_ble_eq_true rfl) ?_
  refine gn_aload0 (pc' := 12) dX7_init_11 rfl rfl ?_
  refine gn_iconst (pc' := 13) dX7_init_12 rfl ?_
  refine gn_newa (pc' := 15) (atype := .int) (ty := .int) (k := 0) (N := 3) (a0 := ((3, .inl (fun _ => 0)) : vp_A)) dX7_init_13 rfl rfl rfl (gtb_at 138 (by decide +kernel) rfl) (fun _ => rfl) (Nat.le_of_ble_eq_true rfl) (Nat.le_of_ble_eq_true rfl) (Nat.le_of_ble_eq_true rfl) (Nat.le_of_ble_eq_true rfl) ?_
  refine gn_putF (pc' := 18) (C' := RX7) (T := TX7) (N := 12) (k := 2) (ty := (.array .int)) dX7_init_15 rfl (gtb_at 94 (by decide +kernel) rfl) tyX7 tyX7_ok nmX7 iX7g rfl (by decide) rfl rfl (by decide +kernel) rfl rfl (Nat.le_of_ble_eq_true rfl) ?_
  refine gn_aload0 (pc' := 19) dX7_init_18 rfl rfl ?_
  refine gn_iconst (pc' := 20) dX7_init_19 rfl ?_
  refine gn_bipush (pc' := 22) dX7_init_20 rfl (by decide) ?_
  refine gn_multi (pc' := 26) dX7_init_22 rfl (gtb_at 87 (by decide +kernel) rfl) (gtb_at 138 (by decide +kernel) rfl) (Nat.le_of_ble_eq_true rfl) (Nat.le_of_ble_eq_true rfl) ?_
  refine gn_putF (pc' := 29) (C' := RX7) (T := TX7) (N := 12) (k := 3) (ty := (.array (.array .int))) dX7_init_26 rfl (gtb_at 96 (by decide +kernel) rfl) tyX7 tyX7_ok nmX7 iX7g rfl (by decide) rfl rfl (by decide +kernel) rfl rfl (Nat.le_of_ble_eq_true rfl) ?_
  refine gn_aload0 (pc' := 30) dX7_init_29 rfl rfl ?_
  refine gn_iconst (pc' := 31) dX7_init_30 rfl ?_
  refine gn_newa (pc' := 33) (atype := .int) (ty := .int) (k := 0) (N := 5) (a0 := ((5, .inl (fun _ => 0)) : vp_A)) dX7_init_31 rfl rfl rfl (gtb_at 138 (by decide +kernel) rfl) (fun _ => rfl) (Nat.le_of_ble_eq_true rfl) (Nat.le_of_ble_eq_true rfl) (Nat.le_of_ble_eq_true rfl) (Nat.le_of_ble_eq_true rfl) ?_
  refine gn_putF (pc' := 36) (C' := RX7) (T := TX7) (N := 12) (k := 5) (ty := (.array .int)) dX7_init_33 rfl (gtb_at 100 (by decide +kernel) rfl) tyX7 tyX7_ok nmX7 iX7g rfl (by decide) rfl rfl (by decide +kernel) rfl rfl (Nat.le_of_ble_eq_true rfl) ?_
  refine gn_aload0 (pc' := 37) dX7_init_36 rfl rfl ?_
  refine gn_iconst (pc' := 38) dX7_init_37 rfl ?_
  refine gn_newa (pc' := 40) (atype := .int) (ty := .int) (k := 0) (N := 5) (a0 := ((5, .inl (fun _ => 0)) : vp_A)) dX7_init_38 rfl rfl rfl (gtb_at 138 (by decide +kernel) rfl) (fun _ => rfl) (Nat.le_of_ble_eq_true rfl) (Nat.le_of_ble_eq_true rfl) (Nat.le_of_ble_eq_true rfl) (Nat.le_of_ble_eq_true rfl) ?_
  refine gn_putF (pc' := 43) (C' := RX7) (T := TX7) (N := 12) (k := 6) (ty := (.array .int)) dX7_init_40 rfl (gtb_at 102 (by decide +kernel) rfl) tyX7 tyX7_ok nmX7 iX7g rfl (by decide) rfl rfl (by decide +kernel) rfl rfl (Nat.le_of_ble_eq_true rfl) ?_
  refine gn_aload0 (pc' := 44) dX7_init_43 rfl rfl ?_
  refine gn_iconst (pc' := 45) dX7_init_44 rfl ?_
  refine gn_newa (pc' := 47) (atype := .int) (ty := .int) (k := 0) (N := 5) (a0 := ((5, .inl (fun _ => 0)) : vp_A)) dX7_init_45 rfl rfl rfl (gtb_at 138 (by decide +kernel) rfl) (fun _ => rfl) (Nat.le_of_ble_eq_true rfl) (Nat.le_of_ble_eq_true rfl) (Nat.le_of_ble_eq_true rfl) (Nat.le_of_ble_eq_true rfl) ?_
  refine gn_putF (pc' := 50) (C' := RX7) (T := TX7) (N := 12) (k := 7) (ty := (.array .int)) dX7_init_47 rfl (gtb_at 104 (by decide +kernel) rfl) tyX7 tyX7_ok nmX7 iX7g rfl (by decide) rfl rfl (by decide +kernel) rfl rfl (Nat.le_of_ble_eq_true rfl) ?_
  refine gn_aload0 (pc' := 51) dX7_init_50 rfl rfl ?_
  refine gn_iconst (pc' := 52) dX7_init_51 rfl ?_
  refine gn_newa (pc' := 54) (atype := .int) (ty := .int) (k := 0) (N := 5) (a0 := ((5, .inl (fun _ => 0)) : vp_A)) dX7_init_52 rfl rfl rfl (gtb_at 138 (by decide +kernel) rfl) (fun _ => rfl) (Nat.le_of_ble_eq_true rfl) (Nat.le_of_ble_eq_true rfl) (Nat.le_of_ble_eq_true rfl) (Nat.le_of_ble_eq_true rfl) ?_
  refine gn_putF (pc' := 57) (C' := RX7) (T := TX7) (N := 12) (k := 8) (ty := (.array .int)) dX7_init_54 rfl (gtb_at 106 (by decide +kernel) rfl) tyX7 tyX7_ok nmX7 iX7g rfl (by decide) rfl rfl (by decide +kernel) rfl rfl (Nat.le_of_ble_eq_true rfl) ?_
  refine gn_aload0 (pc' := 58) dX7_init_57 rfl rfl ?_
  refine gn_bipush (pc' := 60) dX7_init_58 rfl (by decide) ?_
  refine gn_newa (pc' := 62) (atype := .int) (ty := .int) (k := 0) (N := 125) (a0 := ((125, .inl (fun _ => 0)) : vp_A)) dX7_init_60 rfl rfl rfl (gtb_at 138 (by decide +kernel) rfl) (fun _ => rfl) (Nat.le_of_ble_eq_true rfl) (Nat.le_of_ble_eq_true rfl) (Nat.le_of_ble_eq_true rfl) (Nat.le_of_ble_eq_true rfl) ?_
  refine gn_putF (pc' := 65) (C' := RX7) (T := TX7) (N := 12) (k := 10) (ty := (.array .int)) dX7_init_62 rfl (gtb_at 109 (by decide +kernel) rfl) tyX7 tyX7_ok nmX7 iX7g rfl (by decide) rfl rfl (by decide +kernel) rfl rfl (Nat.le_of_ble_eq_true rfl) ?_
  refine gn_aload0 (pc' := 66) dX7_init_65 rfl rfl ?_
  refine gn_iconst (pc' := 67) dX7_init_66 rfl ?_
  refine gn_newa (pc' := 69) (atype := .int) (ty := .int) (k := 0) (N := 4) (a0 := ((4, .inl (fun _ => 0)) : vp_A)) dX7_init_67 rfl rfl rfl (gtb_at 138 (by decide +kernel) rfl) (fun _ => rfl) (Nat.le_of_ble_eq_true rfl) (Nat.le_of_ble_eq_true rfl) (Nat.le_of_ble_eq_true rfl) (Nat.le_of_ble_eq_true rfl) ?_
  refine gn_putF (pc' := 72) (C' := RX7) (T := TX7) (N := 12) (k := 11) (ty := (.array .int)) dX7_init_69 rfl (gtb_at 111 (by decide +kernel) rfl) tyX7 tyX7_ok nmX7 iX7g rfl (by decide) rfl rfl (by decide +kernel) rfl rfl (Nat.le_of_ble_eq_true rfl) ?_
  exact gn_ret dX7_init_72 rfl rfl rfl
def nF_X9 (aC : Nat → ClassId) (z : Nat) : List Value × List va_E := ([.int 0, .int 0, .int 0, .int 0, .int 0, .ref (z + 0), .ref (z + 1), .ref (z + 2), .ref (z + 3), .ref (z + 4), .ref (z + 5), .ref (z + 6), .ref (z + 7), .ref (z + 8), .ref (z + 9)], [iA aC 6, iA aC 6, iA aC 7, iA aC 7, iA aC 7, iA aC 7, iA aC 7, iA aC 7, iA aC 7, .inr (6, (nF_X7 aC (z + 10)).1)] ++ (nF_X7 aC (z + 10)).2)
theorem okn_X9 : gOkM yX9_init 0 := ⟨by decide +kernel, by decide +kernel, by decide +kernel⟩
set_option maxRecDepth 20000 in
theorem n_X9 : nSp 2 yX9_init cX9_init 1 8 22 249 dfX9 nF_X9 := by
  refine nSp_of (by decide +kernel) rfl (by decide) (fun aC a z => ?_)
  show gN RX9 cX9_init 1 2 22 249 aC a z 8 0 0 [some (.ref a)] [] dfX9 [] _
  refine gn_aload0 (pc' := 1) dX9_init_0 rfl rfl ?_
  refine gn_obj (pc' := 4) dX9_init_1 rfl (gtb_at 80 (by decide +kernel) rfl) (gtb_at 30 (by decide +kernel) rfl) (gtb_at 31 (by decide +kernel) rfl) (by decide) (Nat.le_of_ble_eq_true rfl) ?_
  refine gn_aload0 (pc' := 5) dX9_init_4 rfl rfl ?_
  refine gn_bipush (pc' := 7) dX9_init_5 rfl (by decide) ?_
  refine gn_newa (pc' := 9) (atype := .int) (ty := .int) (k := 0) (N := 6) (a0 := ((6, .inl (fun _ => 0)) : vp_A)) dX9_init_7 rfl rfl rfl (gtb_at 138 (by decide +kernel) rfl) (fun _ => rfl) (Nat.le_of_ble_eq_true rfl) (Nat.le_of_ble_eq_true rfl) (Nat.le_of_ble_eq_true rfl) (Nat.le_of_ble_eq_true rfl) ?_
  refine gn_putF (pc' := 12) (C' := RX9) (T := TX9) (N := 15) (k := 5) (ty := (.array .int)) dX9_init_9 rfl (gtb_at 162 (by decide +kernel) rfl) tyX9 tyX9_ok nmX9 iX9g rfl (by decide) rfl rfl (by decide +kernel) rfl rfl (Nat.le_of_ble_eq_true rfl) ?_
  refine gn_aload0 (pc' := 13) dX9_init_12 rfl rfl ?_
  refine gn_bipush (pc' := 15) dX9_init_13 rfl (by decide) ?_
  refine gn_newa (pc' := 17) (atype := .int) (ty := .int) (k := 0) (N := 6) (a0 := ((6, .inl (fun _ => 0)) : vp_A)) dX9_init_15 rfl rfl rfl (gtb_at 138 (by decide +kernel) rfl) (fun _ => rfl) (Nat.le_of_ble_eq_true rfl) (Nat.le_of_ble_eq_true rfl) (Nat.le_of_ble_eq_true rfl) (Nat.le_of_ble_eq_true rfl) ?_
  refine gn_putF (pc' := 20) (C' := RX9) (T := TX9) (N := 15) (k := 6) (ty := (.array .int)) dX9_init_17 rfl (gtb_at 165 (by decide +kernel) rfl) tyX9 tyX9_ok nmX9 iX9g rfl (by decide) rfl rfl (by decide +kernel) rfl rfl (Nat.le_of_ble_eq_true rfl) ?_
  refine gn_aload0 (pc' := 21) dX9_init_20 rfl rfl ?_
  refine gn_bipush (pc' := 23) dX9_init_21 rfl (by decide) ?_
  refine gn_newa (pc' := 25) (atype := .int) (ty := .int) (k := 0) (N := 7) (a0 := ((7, .inl (fun _ => 0)) : vp_A)) dX9_init_23 rfl rfl rfl (gtb_at 138 (by decide +kernel) rfl) (fun _ => rfl) (Nat.le_of_ble_eq_true rfl) (Nat.le_of_ble_eq_true rfl) (Nat.le_of_ble_eq_true rfl) (Nat.le_of_ble_eq_true rfl) ?_
  refine gn_putF (pc' := 28) (C' := RX9) (T := TX9) (N := 15) (k := 7) (ty := (.array .int)) dX9_init_25 rfl (gtb_at 168 (by decide +kernel) rfl) tyX9 tyX9_ok nmX9 iX9g rfl (by decide) rfl rfl (by decide +kernel) rfl rfl (Nat.le_of_ble_eq_true rfl) ?_
  refine gn_aload0 (pc' := 29) dX9_init_28 rfl rfl ?_
  refine gn_bipush (pc' := 31) dX9_init_29 rfl (by decide) ?_
  refine gn_newa (pc' := 33) (atype := .int) (ty := .int) (k := 0) (N := 7) (a0 := ((7, .inl (fun _ => 0)) : vp_A)) dX9_init_31 rfl rfl rfl (gtb_at 138 (by decide +kernel) rfl) (fun _ => rfl) (Nat.le_of_ble_eq_true rfl) (Nat.le_of_ble_eq_true rfl) (Nat.le_of_ble_eq_true rfl) (Nat.le_of_ble_eq_true rfl) ?_
  refine gn_putF (pc' := 36) (C' := RX9) (T := TX9) (N := 15) (k := 8) (ty := (.array .int)) dX9_init_33 rfl (gtb_at 171 (by decide +kernel) rfl) tyX9 tyX9_ok nmX9 iX9g rfl (by decide) rfl rfl (by decide +kernel) rfl rfl (Nat.le_of_ble_eq_true rfl) ?_
  refine gn_aload0 (pc' := 37) dX9_init_36 rfl rfl ?_
  refine gn_bipush (pc' := 39) dX9_init_37 rfl (by decide) ?_
  refine gn_newa (pc' := 41) (atype := .int) (ty := .int) (k := 0) (N := 7) (a0 := ((7, .inl (fun _ => 0)) : vp_A)) dX9_init_39 rfl rfl rfl (gtb_at 138 (by decide +kernel) rfl) (fun _ => rfl) (Nat.le_of_ble_eq_true rfl) (Nat.le_of_ble_eq_true rfl) (Nat.le_of_ble_eq_true rfl) (Nat.le_of_ble_eq_true rfl) ?_
  refine gn_putF (pc' := 44) (C' := RX9) (T := TX9) (N := 15) (k := 9) (ty := (.array .int)) dX9_init_41 rfl (gtb_at 176 (by decide +kernel) rfl) tyX9 tyX9_ok nmX9 iX9g rfl (by decide) rfl rfl (by decide +kernel) rfl rfl (Nat.le_of_ble_eq_true rfl) ?_
  refine gn_aload0 (pc' := 45) dX9_init_44 rfl rfl ?_
  refine gn_bipush (pc' := 47) dX9_init_45 rfl (by decide) ?_
  refine gn_newa (pc' := 49) (atype := .int) (ty := .int) (k := 0) (N := 7) (a0 := ((7, .inl (fun _ => 0)) : vp_A)) dX9_init_47 rfl rfl rfl (gtb_at 138 (by decide +kernel) rfl) (fun _ => rfl) (Nat.le_of_ble_eq_true rfl) (Nat.le_of_ble_eq_true rfl) (Nat.le_of_ble_eq_true rfl) (Nat.le_of_ble_eq_true rfl) ?_
  refine gn_putF (pc' := 52) (C' := RX9) (T := TX9) (N := 15) (k := 10) (ty := (.array .int)) dX9_init_49 rfl (gtb_at 181 (by decide +kernel) rfl) tyX9 tyX9_ok nmX9 iX9g rfl (by decide) rfl rfl (by decide +kernel) rfl rfl (Nat.le_of_ble_eq_true rfl) ?_
  refine gn_aload0 (pc' := 53) dX9_init_52 rfl rfl ?_
  refine gn_bipush (pc' := 55) dX9_init_53 rfl (by decide) ?_
  refine gn_newa (pc' := 57) (atype := .int) (ty := .int) (k := 0) (N := 7) (a0 := ((7, .inl (fun _ => 0)) : vp_A)) dX9_init_55 rfl rfl rfl (gtb_at 138 (by decide +kernel) rfl) (fun _ => rfl) (Nat.le_of_ble_eq_true rfl) (Nat.le_of_ble_eq_true rfl) (Nat.le_of_ble_eq_true rfl) (Nat.le_of_ble_eq_true rfl) ?_
  refine gn_putF (pc' := 60) (C' := RX9) (T := TX9) (N := 15) (k := 11) (ty := (.array .int)) dX9_init_57 rfl (gtb_at 185 (by decide +kernel) rfl) tyX9 tyX9_ok nmX9 iX9g rfl (by decide) rfl rfl (by decide +kernel) rfl rfl (Nat.le_of_ble_eq_true rfl) ?_
  refine gn_aload0 (pc' := 61) dX9_init_60 rfl rfl ?_
  refine gn_bipush (pc' := 63) dX9_init_61 rfl (by decide) ?_
  refine gn_newa (pc' := 65) (atype := .int) (ty := .int) (k := 0) (N := 7) (a0 := ((7, .inl (fun _ => 0)) : vp_A)) dX9_init_63 rfl rfl rfl (gtb_at 138 (by decide +kernel) rfl) (fun _ => rfl) (Nat.le_of_ble_eq_true rfl) (Nat.le_of_ble_eq_true rfl) (Nat.le_of_ble_eq_true rfl) (Nat.le_of_ble_eq_true rfl) ?_
  refine gn_putF (pc' := 68) (C' := RX9) (T := TX9) (N := 15) (k := 12) (ty := (.array .int)) dX9_init_65 rfl (gtb_at 189 (by decide +kernel) rfl) tyX9 tyX9_ok nmX9 iX9g rfl (by decide) rfl rfl (by decide +kernel) rfl rfl (Nat.le_of_ble_eq_true rfl) ?_
  refine gn_aload0 (pc' := 69) dX9_init_68 rfl rfl ?_
  refine gn_bipush (pc' := 71) dX9_init_69 rfl (by decide) ?_
  refine gn_newa (pc' := 73) (atype := .int) (ty := .int) (k := 0) (N := 7) (a0 := ((7, .inl (fun _ => 0)) : vp_A)) dX9_init_71 rfl rfl rfl (gtb_at 138 (by decide +kernel) rfl) (fun _ => rfl) (Nat.le_of_ble_eq_true rfl) (Nat.le_of_ble_eq_true rfl) (Nat.le_of_ble_eq_true rfl) (Nat.le_of_ble_eq_true rfl) ?_
  refine gn_putF (pc' := 76) (C' := RX9) (T := TX9) (N := 15) (k := 13) (ty := (.array .int)) dX9_init_73 rfl (gtb_at 192 (by decide +kernel) rfl) tyX9 tyX9_ok nmX9 iX9g rfl (by decide) rfl rfl (by decide +kernel) rfl rfl (Nat.le_of_ble_eq_true rfl) ?_
  refine gn_aload0 (pc' := 77) dX9_init_76 rfl rfl ?_
  refine gn_new (pc' := 80) (C' := RX7) (T := TX7) (N := 12) (cj := 6) (f0 := dfX7) dX9_init_77 rfl (gtb_at 81 (by decide +kernel) rfl) (gtb_at 82 (by decide +kernel) rfl) (gtb_at 5 (by decide +kernel) rfl) tyX7 tyX7_ok iX7g rfl dfX7_ok (Nat.le_of_ble_eq_true rfl) (Nat.le_of_ble_eq_true rfl) ?_
  refine gn_dup (pc' := 81) dX9_init_80 rfl rfl ?_
  refine gn_initN (pc' := 84) (host := "GrudgeLoft") n_X7 dX9_init_81 rfl rfl okn_X7 (gtb_at 83 (by decide +kernel) rfl) (gtb_at 84 (by decide +kernel) rfl) (gtb_at 5 (by decide +kernel) rfl) (gtb_at 85 (by decide +kernel) rfl) (by decide) (by decide) (Nat.le_of_ble_eq_true rfl) rfl (Nat.le_of_ble_eq_true rfl) (Nat.le_of_ble_eq_true rfl) ?_
  refine gn_putF (pc' := 87) (C' := RX9) (T := TX9) (N := 15) (k := 14) (ty := (.object "GrudgeLoft$Strays")) dX9_init_84 rfl (gtb_at 195 (by decide +kernel) rfl) tyX9 tyX9_ok nmX9 iX9g rfl (by decide) rfl rfl (by decide +kernel) rfl rfl (Nat.le_of_ble_eq_true rfl) ?_
  exact gn_ret dX9_init_87 rfl rfl rfl
def nF_X4 (aC : Nat → ClassId) (z : Nat) : List Value × List va_E := ([.ref (z + 0), .ref (z + 2), .ref (z + 3), .int 0, .int 0, .int 0, .int 0, .int 0, .ref (z + 4)], [.inr (7, (nF_X8 aC (z + 1)).1)] ++ (nF_X8 aC (z + 1)).2 ++ [lgA aC 16, iA aC 16, .inr (8, (nF_X9 aC (z + 5)).1)] ++ (nF_X9 aC (z + 5)).2)
theorem okn_X4 : gOkM yX4_init 0 := ⟨by decide +kernel, by decide +kernel, by decide +kernel⟩
set_option maxRecDepth 20000 in
theorem n_X4 : nSp 3 yX4_init cX4_init 1 3 27 1204 dfX4 nF_X4 := by
  refine nSp_of (by decide +kernel) rfl (by decide) (fun aC a z => ?_)
  show gN RX4 cX4_init 1 3 27 1204 aC a z 3 0 0 [some (.ref a)] [] dfX4 [] _
  refine gn_aload0 (pc' := 1) dX4_init_0 rfl rfl ?_
  refine gn_obj (pc' := 4) dX4_init_1 rfl (gtb_at 37 (by decide +kernel) rfl) (gtb_at 30 (by decide +kernel) rfl) (gtb_at 31 (by decide +kernel) rfl) (by decide) (Nat.le_of_ble_eq_true rfl) ?_
  refine gn_aload0 (pc' := 5) dX4_init_4 rfl rfl ?_
  refine gn_new (pc' := 8) (C' := RX8) (T := TX8) (N := 8) (cj := 7) (f0 := dfX8) dX4_init_5 rfl (gtb_at 38 (by decide +kernel) rfl) (gtb_at 39 (by decide +kernel) rfl) (gtb_at 3 (by decide +kernel) rfl) tyX8 tyX8_ok iX8g rfl dfX8_ok (Nat.le_of_ble_eq_true rfl) (Nat.le_of_ble_eq_true rfl) ?_
  refine gn_dup (pc' := 9) dX4_init_8 rfl rfl ?_
  refine gn_initN (pc' := 12) (host := "GrudgeLoft") n_X8 dX4_init_9 rfl rfl okn_X8 (gtb_at 40 (by decide +kernel) rfl) (gtb_at 41 (by decide +kernel) rfl) (gtb_at 3 (by decide +kernel) rfl) (gtb_at 42 (by decide +kernel) rfl) (by decide) (by decide) (Nat.le_of_ble_eq_true rfl) rfl (Nat.le_of_ble_eq_true rfl) (Nat.le_of_ble_eq_true rfl) ?_
  refine gn_putF (pc' := 15) (C' := RX4) (T := TX4) (N := 9) (k := 0) (ty := (.object "GrudgeLoft$Tape")) dX4_init_12 rfl (gtb_at 229 (by decide +kernel) rfl) tyX4 tyX4_ok nmX4 iX4g rfl (by decide) rfl rfl (by decide +kernel) rfl rfl (Nat.le_of_ble_eq_true rfl) ?_
  refine gn_aload0 (pc' := 16) dX4_init_15 rfl rfl ?_
  refine gn_bipush (pc' := 18) dX4_init_16 rfl (by decide) ?_
  refine gn_newa (pc' := 20) (atype := .long) (ty := .long) (k := 2) (N := 16) (a0 := ((16, .inr (.inl (fun _ => 0))) : vp_A)) dX4_init_18 rfl rfl rfl (gtb_at 137 (by decide +kernel) rfl) (fun _ => rfl) (Nat.le_of_ble_eq_true rfl) (Nat.le_of_ble_eq_true rfl) (Nat.le_of_ble_eq_true rfl) (Nat.le_of_ble_eq_true rfl) ?_
  refine gn_putF (pc' := 23) (C' := RX4) (T := TX4) (N := 9) (k := 1) (ty := (.array .long)) dX4_init_20 rfl (gtb_at 231 (by decide +kernel) rfl) tyX4 tyX4_ok nmX4 iX4g rfl (by decide) rfl rfl (by decide +kernel) rfl rfl (Nat.le_of_ble_eq_true rfl) ?_
  refine gn_aload0 (pc' := 24) dX4_init_23 rfl rfl ?_
  refine gn_bipush (pc' := 26) dX4_init_24 rfl (by decide) ?_
  refine gn_newa (pc' := 28) (atype := .int) (ty := .int) (k := 0) (N := 16) (a0 := ((16, .inl (fun _ => 0)) : vp_A)) dX4_init_26 rfl rfl rfl (gtb_at 138 (by decide +kernel) rfl) (fun _ => rfl) (Nat.le_of_ble_eq_true rfl) (Nat.le_of_ble_eq_true rfl) (Nat.le_of_ble_eq_true rfl) (Nat.le_of_ble_eq_true rfl) ?_
  refine gn_putF (pc' := 31) (C' := RX4) (T := TX4) (N := 9) (k := 2) (ty := (.array .int)) dX4_init_28 rfl (gtb_at 232 (by decide +kernel) rfl) tyX4 tyX4_ok nmX4 iX4g rfl (by decide) rfl rfl (by decide +kernel) rfl rfl (Nat.le_of_ble_eq_true rfl) ?_
  refine gn_aload0 (pc' := 32) dX4_init_31 rfl rfl ?_
  refine gn_new (pc' := 35) (C' := RX9) (T := TX9) (N := 15) (cj := 8) (f0 := dfX9) dX4_init_32 rfl (gtb_at 75 (by decide +kernel) rfl) (gtb_at 76 (by decide +kernel) rfl) (gtb_at 4 (by decide +kernel) rfl) tyX9 tyX9_ok iX9g rfl dfX9_ok (Nat.le_of_ble_eq_true rfl) (Nat.le_of_ble_eq_true rfl) ?_
  refine gn_dup (pc' := 36) dX4_init_35 rfl rfl ?_
  refine gn_initN (pc' := 39) (host := "GrudgeLoft") n_X9 dX4_init_36 rfl rfl okn_X9 (gtb_at 77 (by decide +kernel) rfl) (gtb_at 78 (by decide +kernel) rfl) (gtb_at 4 (by decide +kernel) rfl) (gtb_at 79 (by decide +kernel) rfl) (by decide) (by decide) (Nat.le_of_ble_eq_true rfl) rfl (Nat.le_of_ble_eq_true rfl) (Nat.le_of_ble_eq_true rfl) ?_
  refine gn_put (pc' := 42) (C' := RX4) (T := TX4) (N := 9) (k := 8) (ty := (.object "GrudgeLoft$Town")) dX4_init_39 rfl (gtb_at 240 (by decide +kernel) rfl) tyX4 tyX4_ok nmX4 iX4g rfl (by decide) rfl (by decide +kernel) rfl rfl (Nat.le_of_ble_eq_true rfl) ?_
  exact gn_ret dX4_init_42 rfl rfl rfl
def nF_X3 (aC : Nat → ClassId) (z : Nat) : List Value × List va_E := ([.int 0, .int 0, .int 0, .ref (z + 0), .ref (z + 1), .ref (z + 2)], [iA aC 6, iA aC 6, iA aC 7])
theorem okn_X3 : gOkM yX3_init 0 := ⟨by decide +kernel, by decide +kernel, by decide +kernel⟩
set_option maxRecDepth 20000 in
theorem n_X3 : nSp 1 yX3_init cX3_init 1 2 3 19 dfX3 nF_X3 := by
  refine nSp_of (by decide +kernel) rfl (by decide) (fun aC a z => ?_)
  show gN RX3 cX3_init 1 1 3 19 aC a z 2 0 0 [some (.ref a)] [] dfX3 [] _
  refine gn_aload0 (pc' := 1) dX3_init_0 rfl rfl ?_
  refine gn_obj (pc' := 4) dX3_init_1 rfl (gtb_at 266 (by decide +kernel) rfl) (gtb_at 30 (by decide +kernel) rfl) (gtb_at 31 (by decide +kernel) rfl) (by decide) (Nat.le_of_ble_eq_true rfl) ?_
  refine gn_aload0 (pc' := 5) dX3_init_4 rfl rfl ?_
  refine gn_bipush (pc' := 7) dX3_init_5 rfl (by decide) ?_
  refine gn_newa (pc' := 9) (atype := .int) (ty := .int) (k := 0) (N := 6) (a0 := ((6, .inl (fun _ => 0)) : vp_A)) dX3_init_7 rfl rfl rfl (gtb_at 138 (by decide +kernel) rfl) (fun _ => rfl) (Nat.le_of_ble_eq_true rfl) (Nat.le_of_ble_eq_true rfl) (Nat.le_of_ble_eq_true rfl) (Nat.le_of_ble_eq_true rfl) ?_
  refine gn_putF (pc' := 12) (C' := RX3) (T := TX3) (N := 6) (k := 3) (ty := (.array .int)) dX3_init_9 rfl (gtb_at 272 (by decide +kernel) rfl) tyX3 tyX3_ok nmX3 iX3g rfl (by decide) rfl rfl (by decide +kernel) rfl rfl (Nat.le_of_ble_eq_true rfl) ?_
  refine gn_aload0 (pc' := 13) dX3_init_12 rfl rfl ?_
  refine gn_bipush (pc' := 15) dX3_init_13 rfl (by decide) ?_
  refine gn_newa (pc' := 17) (atype := .int) (ty := .int) (k := 0) (N := 6) (a0 := ((6, .inl (fun _ => 0)) : vp_A)) dX3_init_15 rfl rfl rfl (gtb_at 138 (by decide +kernel) rfl) (fun _ => rfl) (Nat.le_of_ble_eq_true rfl) (Nat.le_of_ble_eq_true rfl) (Nat.le_of_ble_eq_true rfl) (Nat.le_of_ble_eq_true rfl) ?_
  refine gn_putF (pc' := 20) (C' := RX3) (T := TX3) (N := 6) (k := 4) (ty := (.array .int)) dX3_init_17 rfl (gtb_at 274 (by decide +kernel) rfl) tyX3 tyX3_ok nmX3 iX3g rfl (by decide) rfl rfl (by decide +kernel) rfl rfl (Nat.le_of_ble_eq_true rfl) ?_
  refine gn_aload0 (pc' := 21) dX3_init_20 rfl rfl ?_
  refine gn_bipush (pc' := 23) dX3_init_21 rfl (by decide) ?_
  refine gn_newa (pc' := 25) (atype := .int) (ty := .int) (k := 0) (N := 7) (a0 := ((7, .inl (fun _ => 0)) : vp_A)) dX3_init_23 rfl rfl rfl (gtb_at 138 (by decide +kernel) rfl) (fun _ => rfl) (Nat.le_of_ble_eq_true rfl) (Nat.le_of_ble_eq_true rfl) (Nat.le_of_ble_eq_true rfl) (Nat.le_of_ble_eq_true rfl) ?_
  refine gn_putF (pc' := 28) (C' := RX3) (T := TX3) (N := 6) (k := 5) (ty := (.array .int)) dX3_init_25 rfl (gtb_at 276 (by decide +kernel) rfl) tyX3 tyX3_ok nmX3 iX3g rfl (by decide) rfl rfl (by decide +kernel) rfl rfl (Nat.le_of_ble_eq_true rfl) ?_
  exact gn_ret dX3_init_28 rfl rfl rfl
def nF_X0 (aC : Nat → ClassId) (z : Nat) : List Value × List va_E := ([.ref (z + 0), .ref (z + 1)], [iA aC 128, iA aC 128])
theorem okn_X0 : gOkM yX0_init 0 := ⟨by decide +kernel, by decide +kernel, by decide +kernel⟩
set_option maxRecDepth 20000 in
theorem n_X0 : nSp 1 yX0_init cX0_init 1 0 2 256 dfX0 nF_X0 := by
  refine nSp_of (by decide +kernel) rfl (by decide) (fun aC a z => ?_)
  show gN RX0 cX0_init 1 1 2 256 aC a z 0 0 0 [some (.ref a)] [] dfX0 [] _
  refine gn_aload0 (pc' := 1) dX0_init_0 rfl rfl ?_
  refine gn_obj (pc' := 4) dX0_init_1 rfl (gtb_at 322 (by decide +kernel) rfl) (gtb_at 30 (by decide +kernel) rfl) (gtb_at 31 (by decide +kernel) rfl) (by decide) (Nat.le_of_ble_eq_true rfl) ?_
  refine gn_aload0 (pc' := 5) dX0_init_4 rfl rfl ?_
  refine gn_sipush (pc' := 8) dX0_init_5 rfl (by decide) ?_
  refine gn_newa (pc' := 10) (atype := .int) (ty := .int) (k := 0) (N := 128) (a0 := ((128, .inl (fun _ => 0)) : vp_A)) dX0_init_8 rfl rfl rfl (gtb_at 138 (by decide +kernel) rfl) (fun _ => rfl) (Nat.le_of_ble_eq_true rfl) (Nat.le_of_ble_eq_true rfl) (Nat.le_of_ble_eq_true rfl) (Nat.le_of_ble_eq_true rfl) ?_
  refine gn_putF (pc' := 13) (C' := RX0) (T := TX0) (N := 2) (k := 0) (ty := (.array .int)) dX0_init_10 rfl (gtb_at 323 (by decide +kernel) rfl) tyX0 tyX0_ok nmX0 iX0g rfl (by decide) rfl rfl (by decide +kernel) rfl rfl (Nat.le_of_ble_eq_true rfl) ?_
  refine gn_aload0 (pc' := 14) dX0_init_13 rfl rfl ?_
  refine gn_sipush (pc' := 17) dX0_init_14 rfl (by decide) ?_
  refine gn_newa (pc' := 19) (atype := .int) (ty := .int) (k := 0) (N := 128) (a0 := ((128, .inl (fun _ => 0)) : vp_A)) dX0_init_17 rfl rfl rfl (gtb_at 138 (by decide +kernel) rfl) (fun _ => rfl) (Nat.le_of_ble_eq_true rfl) (Nat.le_of_ble_eq_true rfl) (Nat.le_of_ble_eq_true rfl) (Nat.le_of_ble_eq_true rfl) ?_
  refine gn_putF (pc' := 22) (C' := RX0) (T := TX0) (N := 2) (k := 1) (ty := (.array .int)) dX0_init_19 rfl (gtb_at 324 (by decide +kernel) rfl) tyX0 tyX0_ok nmX0 iX0g rfl (by decide) rfl rfl (by decide +kernel) rfl rfl (Nat.le_of_ble_eq_true rfl) ?_
  exact gn_ret dX0_init_22 rfl rfl rfl
def nF_X5 (aC : Nat → ClassId) (z : Nat) : List Value × List va_E := ([.ref (z + 0), .ref (z + 1)], [iA aC 6, iA aC 6])
theorem okn_X5 : gOkM yX5_init 0 := ⟨by decide +kernel, by decide +kernel, by decide +kernel⟩
set_option maxRecDepth 20000 in
theorem n_X5 : nSp 1 yX5_init cX5_init 1 4 2 12 dfX5 nF_X5 := by
  refine nSp_of (by decide +kernel) rfl (by decide) (fun aC a z => ?_)
  show gN RX5 cX5_init 1 1 2 12 aC a z 4 0 0 [some (.ref a)] [] dfX5 [] _
  refine gn_aload0 (pc' := 1) dX5_init_0 rfl rfl ?_
  refine gn_obj (pc' := 4) dX5_init_1 rfl (gtb_at 335 (by decide +kernel) rfl) (gtb_at 30 (by decide +kernel) rfl) (gtb_at 31 (by decide +kernel) rfl) (by decide) (Nat.le_of_ble_eq_true rfl) ?_
  refine gn_aload0 (pc' := 5) dX5_init_4 rfl rfl ?_
  refine gn_bipush (pc' := 7) dX5_init_5 rfl (by decide) ?_
  refine gn_newa (pc' := 9) (atype := .int) (ty := .int) (k := 0) (N := 6) (a0 := ((6, .inl (fun _ => 0)) : vp_A)) dX5_init_7 rfl rfl rfl (gtb_at 138 (by decide +kernel) rfl) (fun _ => rfl) (Nat.le_of_ble_eq_true rfl) (Nat.le_of_ble_eq_true rfl) (Nat.le_of_ble_eq_true rfl) (Nat.le_of_ble_eq_true rfl) ?_
  refine gn_putF (pc' := 12) (C' := RX5) (T := TX5) (N := 2) (k := 0) (ty := (.array .int)) dX5_init_9 rfl (gtb_at 336 (by decide +kernel) rfl) tyX5 tyX5_ok nmX5 iX5g rfl (by decide) rfl rfl (by decide +kernel) rfl rfl (Nat.le_of_ble_eq_true rfl) ?_
  refine gn_aload0 (pc' := 13) dX5_init_12 rfl rfl ?_
  refine gn_bipush (pc' := 15) dX5_init_13 rfl (by decide) ?_
  refine gn_newa (pc' := 17) (atype := .int) (ty := .int) (k := 0) (N := 6) (a0 := ((6, .inl (fun _ => 0)) : vp_A)) dX5_init_15 rfl rfl rfl (gtb_at 138 (by decide +kernel) rfl) (fun _ => rfl) (Nat.le_of_ble_eq_true rfl) (Nat.le_of_ble_eq_true rfl) (Nat.le_of_ble_eq_true rfl) (Nat.le_of_ble_eq_true rfl) ?_
  refine gn_putF (pc' := 20) (C' := RX5) (T := TX5) (N := 2) (k := 1) (ty := (.array .int)) dX5_init_17 rfl (gtb_at 337 (by decide +kernel) rfl) tyX5 tyX5_ok nmX5 iX5g rfl (by decide) rfl rfl (by decide +kernel) rfl rfl (Nat.le_of_ble_eq_true rfl) ?_
  exact gn_ret dX5_init_20 rfl rfl rfl
def nF_X6 (aC : Nat → ClassId) (z : Nat) : List Value × List va_E := ([.int 0], [])
theorem okn_X6 : gOkM yX6_init 0 := ⟨by decide +kernel, by decide +kernel, by decide +kernel⟩
set_option maxRecDepth 20000 in
theorem n_X6 : nSp 1 yX6_init cX6_init 1 5 0 0 dfX6 nF_X6 := by
  refine nSp_of (by decide +kernel) rfl (by decide) (fun aC a z => ?_)
  show gN RX6 cX6_init 1 1 0 0 aC a z 5 0 0 [some (.ref a)] [] dfX6 [] _
  refine gn_aload0 (pc' := 1) dX6_init_0 rfl rfl ?_
  refine gn_obj (pc' := 4) dX6_init_1 rfl (gtb_at 348 (by decide +kernel) rfl) (gtb_at 30 (by decide +kernel) rfl) (gtb_at 31 (by decide +kernel) rfl) (by decide) (Nat.le_of_ble_eq_true rfl) ?_
  exact gn_ret dX6_init_4 rfl rfl rfl
def nF_X11 (aC : Nat → ClassId) (z : Nat) : List Value × List va_E := ([.int 0, .ref (z + 0), .int 0, .int 0, .int 0, .int 0, .int 0, .int 0, .int 0, .int 0, .int (zI (-1)), .int 0, .ref (z + 1), .int 0, .int 0, .ref (z + 2), .ref (z + 3), .ref (z + 4), .ref (z + 5), .ref (z + 6), .int 0, .int 0, .ref (z + 7), .ref (z + 8), .int 0, .int 0, .ref (z + 9), .ref (z + 10), .ref (z + 11), .ref (z + 12), .int 0, .int 0, .int 0, .int 0, .int 0], [iA aC 900, iA aC 8, iA aC 219, iA aC 219, iA aC 22, iA aC 352, iA aC 66, iA aC 7, iA aC 7, iA aC 3, iA aC 3, iA aC 18, iA aC 984])
theorem okn_X11 : gOkM yX11_init 0 := ⟨by decide +kernel, by decide +kernel, by decide +kernel⟩
set_option maxRecDepth 20000 in
theorem n_X11 : nSp 1 yX11_init cX11_init 1 10 13 2808 dfX11 nF_X11 := by
  refine nSp_of (by decide +kernel) rfl (by decide) (fun aC a z => ?_)
  show gN RX11 cX11_init 1 1 13 2808 aC a z 10 0 0 [some (.ref a)] [] dfX11 [] _
  refine gn_aload0 (pc' := 1) dX11_init_0 rfl rfl ?_
  refine gn_obj (pc' := 4) dX11_init_1 rfl (gtb_at 1274 (by decide +kernel) rfl) (gtb_at 30 (by decide +kernel) rfl) (gtb_at 31 (by decide +kernel) rfl) (by decide) (Nat.le_of_ble_eq_true rfl) ?_
  refine gn_aload0 (pc' := 5) dX11_init_4 rfl rfl ?_
  refine gn_sipush (pc' := 8) dX11_init_5 rfl (by decide) ?_
  refine gn_newa (pc' := 10) (atype := .int) (ty := .int) (k := 0) (N := 900) (a0 := ((900, .inl (fun _ => 0)) : vp_A)) dX11_init_8 rfl rfl rfl (gtb_at 138 (by decide +kernel) rfl) (fun _ => rfl) (Nat.le_of_ble_eq_true rfl) (Nat.le_of_ble_eq_true rfl) (Nat.le_of_ble_eq_true rfl) (Nat.le_of_ble_eq_true rfl) ?_
  refine gn_putF (pc' := 13) (C' := RX11) (T := TX11) (N := 35) (k := 1) (ty := (.array .int)) dX11_init_10 rfl (gtb_at 1276 (by decide +kernel) rfl) tyX11 tyX11_ok nmX11 iX11g rfl (by decide) rfl rfl (by decide +kernel) rfl rfl (Nat.le_of_ble_eq_true rfl) ?_
  refine gn_aload0 (pc' := 14) dX11_init_13 rfl rfl ?_
  refine gn_iconst (pc' := 15) dX11_init_14 rfl ?_
  refine gn_put (pc' := 18) (C' := RX11) (T := TX11) (N := 35) (k := 10) (ty := .int) dX11_init_15 rfl (gtb_at 1285 (by decide +kernel) rfl) tyX11 tyX11_ok nmX11 iX11g rfl (by decide) rfl (by decide +kernel) rfl rfl (Nat.le_of_ble_eq_true rfl) ?_
  refine gn_aload0 (pc' := 19) dX11_init_18 rfl rfl ?_
  refine gn_bipush (pc' := 21) dX11_init_19 rfl (by decide) ?_
  refine gn_newa (pc' := 23) (atype := .int) (ty := .int) (k := 0) (N := 8) (a0 := ((8, .inl (fun _ => 0)) : vp_A)) dX11_init_21 rfl rfl rfl (gtb_at 138 (by decide +kernel) rfl) (fun _ => rfl) (Nat.le_of_ble_eq_true rfl) (Nat.le_of_ble_eq_true rfl) (Nat.le_of_ble_eq_true rfl) (Nat.le_of_ble_eq_true rfl) ?_
  refine gn_putF (pc' := 26) (C' := RX11) (T := TX11) (N := 35) (k := 12) (ty := (.array .int)) dX11_init_23 rfl (gtb_at 1287 (by decide +kernel) rfl) tyX11 tyX11_ok nmX11 iX11g rfl (by decide) rfl rfl (by decide +kernel) rfl rfl (Nat.le_of_ble_eq_true rfl) ?_
  refine gn_aload0 (pc' := 27) dX11_init_26 rfl rfl ?_
  refine gn_sipush (pc' := 30) dX11_init_27 rfl (by decide) ?_
  refine gn_newa (pc' := 32) (atype := .int) (ty := .int) (k := 0) (N := 219) (a0 := ((219, .inl (fun _ => 0)) : vp_A)) dX11_init_30 rfl rfl rfl (gtb_at 138 (by decide +kernel) rfl) (fun _ => rfl) (Nat.le_of_ble_eq_true rfl) (Nat.le_of_ble_eq_true rfl) (Nat.le_of_ble_eq_true rfl) (Nat.le_of_ble_eq_true rfl) ?_
  refine gn_putF (pc' := 35) (C' := RX11) (T := TX11) (N := 35) (k := 15) (ty := (.array .int)) dX11_init_32 rfl (gtb_at 1290 (by decide +kernel) rfl) tyX11 tyX11_ok nmX11 iX11g rfl (by decide) rfl rfl (by decide +kernel) rfl rfl (Nat.le_of_ble_eq_true rfl) ?_
  refine gn_aload0 (pc' := 36) dX11_init_35 rfl rfl ?_
  refine gn_sipush (pc' := 39) dX11_init_36 rfl (by decide) ?_
  refine gn_newa (pc' := 41) (atype := .int) (ty := .int) (k := 0) (N := 219) (a0 := ((219, .inl (fun _ => 0)) : vp_A)) dX11_init_39 rfl rfl rfl (gtb_at 138 (by decide +kernel) rfl) (fun _ => rfl) (Nat.le_of_ble_eq_true rfl) (Nat.le_of_ble_eq_true rfl) (Nat.le_of_ble_eq_true rfl) (Nat.le_of_ble_eq_true rfl) ?_
  refine gn_putF (pc' := 44) (C' := RX11) (T := TX11) (N := 35) (k := 16) (ty := (.array .int)) dX11_init_41 rfl (gtb_at 1291 (by decide +kernel) rfl) tyX11 tyX11_ok nmX11 iX11g rfl (by decide) rfl rfl (by decide +kernel) rfl rfl (Nat.le_of_ble_eq_true rfl) ?_
  refine gn_aload0 (pc' := 45) dX11_init_44 rfl rfl ?_
  refine gn_bipush (pc' := 47) dX11_init_45 rfl (by decide) ?_
  refine gn_newa (pc' := 49) (atype := .int) (ty := .int) (k := 0) (N := 22) (a0 := ((22, .inl (fun _ => 0)) : vp_A)) dX11_init_47 rfl rfl rfl (gtb_at 138 (by decide +kernel) rfl) (fun _ => rfl) (Nat.le_of_ble_eq_true rfl) (Nat.le_of_ble_eq_true rfl) (Nat.le_of_ble_eq_true rfl) (Nat.le_of_ble_eq_true rfl) ?_
  refine gn_putF (pc' := 52) (C' := RX11) (T := TX11) (N := 35) (k := 17) (ty := (.array .int)) dX11_init_49 rfl (gtb_at 1292 (by decide +kernel) rfl) tyX11 tyX11_ok nmX11 iX11g rfl (by decide) rfl rfl (by decide +kernel) rfl rfl (Nat.le_of_ble_eq_true rfl) ?_
  refine gn_aload0 (pc' := 53) dX11_init_52 rfl rfl ?_
  refine gn_sipush (pc' := 56) dX11_init_53 rfl (by decide) ?_
  refine gn_newa (pc' := 58) (atype := .int) (ty := .int) (k := 0) (N := 352) (a0 := ((352, .inl (fun _ => 0)) : vp_A)) dX11_init_56 rfl rfl rfl (gtb_at 138 (by decide +kernel) rfl) (fun _ => rfl) (Nat.le_of_ble_eq_true rfl) (Nat.le_of_ble_eq_true rfl) (Nat.le_of_ble_eq_true rfl) (Nat.le_of_ble_eq_true rfl) ?_
  refine gn_putF (pc' := 61) (C' := RX11) (T := TX11) (N := 35) (k := 18) (ty := (.array .int)) dX11_init_58 rfl (gtb_at 1293 (by decide +kernel) rfl) tyX11 tyX11_ok nmX11 iX11g rfl (by decide) rfl rfl (by decide +kernel) rfl rfl (Nat.le_of_ble_eq_true rfl) ?_
  refine gn_aload0 (pc' := 62) dX11_init_61 rfl rfl ?_
  refine gn_bipush (pc' := 64) dX11_init_62 rfl (by decide) ?_
  refine gn_newa (pc' := 66) (atype := .int) (ty := .int) (k := 0) (N := 66) (a0 := ((66, .inl (fun _ => 0)) : vp_A)) dX11_init_64 rfl rfl rfl (gtb_at 138 (by decide +kernel) rfl) (fun _ => rfl) (Nat.le_of_ble_eq_true rfl) (Nat.le_of_ble_eq_true rfl) (Nat.le_of_ble_eq_true rfl) (Nat.le_of_ble_eq_true rfl) ?_
  refine gn_putF (pc' := 69) (C' := RX11) (T := TX11) (N := 35) (k := 19) (ty := (.array .int)) dX11_init_66 rfl (gtb_at 1294 (by decide +kernel) rfl) tyX11 tyX11_ok nmX11 iX11g rfl (by decide) rfl rfl (by decide +kernel) rfl rfl (Nat.le_of_ble_eq_true rfl) ?_
  refine gn_aload0 (pc' := 70) dX11_init_69 rfl rfl ?_
  refine gn_bipush (pc' := 72) dX11_init_70 rfl (by decide) ?_
  refine gn_newa (pc' := 74) (atype := .int) (ty := .int) (k := 0) (N := 7) (a0 := ((7, .inl (fun _ => 0)) : vp_A)) dX11_init_72 rfl rfl rfl (gtb_at 138 (by decide +kernel) rfl) (fun _ => rfl) (Nat.le_of_ble_eq_true rfl) (Nat.le_of_ble_eq_true rfl) (Nat.le_of_ble_eq_true rfl) (Nat.le_of_ble_eq_true rfl) ?_
  refine gn_putF (pc' := 77) (C' := RX11) (T := TX11) (N := 35) (k := 22) (ty := (.array .int)) dX11_init_74 rfl (gtb_at 1297 (by decide +kernel) rfl) tyX11 tyX11_ok nmX11 iX11g rfl (by decide) rfl rfl (by decide +kernel) rfl rfl (Nat.le_of_ble_eq_true rfl) ?_
  refine gn_aload0 (pc' := 78) dX11_init_77 rfl rfl ?_
  refine gn_bipush (pc' := 80) dX11_init_78 rfl (by decide) ?_
  refine gn_newa (pc' := 82) (atype := .int) (ty := .int) (k := 0) (N := 7) (a0 := ((7, .inl (fun _ => 0)) : vp_A)) dX11_init_80 rfl rfl rfl (gtb_at 138 (by decide +kernel) rfl) (fun _ => rfl) (Nat.le_of_ble_eq_true rfl) (Nat.le_of_ble_eq_true rfl) (Nat.le_of_ble_eq_true rfl) (Nat.le_of_ble_eq_true rfl) ?_
  refine gn_putF (pc' := 85) (C' := RX11) (T := TX11) (N := 35) (k := 23) (ty := (.array .int)) dX11_init_82 rfl (gtb_at 1298 (by decide +kernel) rfl) tyX11 tyX11_ok nmX11 iX11g rfl (by decide) rfl rfl (by decide +kernel) rfl rfl (Nat.le_of_ble_eq_true rfl) ?_
  refine gn_aload0 (pc' := 86) dX11_init_85 rfl rfl ?_
  refine gn_iconst (pc' := 87) dX11_init_86 rfl ?_
  refine gn_newa (pc' := 89) (atype := .int) (ty := .int) (k := 0) (N := 3) (a0 := ((3, .inl (fun _ => 0)) : vp_A)) dX11_init_87 rfl rfl rfl (gtb_at 138 (by decide +kernel) rfl) (fun _ => rfl) (Nat.le_of_ble_eq_true rfl) (Nat.le_of_ble_eq_true rfl) (Nat.le_of_ble_eq_true rfl) (Nat.le_of_ble_eq_true rfl) ?_
  refine gn_putF (pc' := 92) (C' := RX11) (T := TX11) (N := 35) (k := 26) (ty := (.array .int)) dX11_init_89 rfl (gtb_at 1301 (by decide +kernel) rfl) tyX11 tyX11_ok nmX11 iX11g rfl (by decide) rfl rfl (by decide +kernel) rfl rfl (Nat.le_of_ble_eq_true rfl) ?_
  refine gn_aload0 (pc' := 93) dX11_init_92 rfl rfl ?_
  refine gn_iconst (pc' := 94) dX11_init_93 rfl ?_
  refine gn_newa (pc' := 96) (atype := .int) (ty := .int) (k := 0) (N := 3) (a0 := ((3, .inl (fun _ => 0)) : vp_A)) dX11_init_94 rfl rfl rfl (gtb_at 138 (by decide +kernel) rfl) (fun _ => rfl) (Nat.le_of_ble_eq_true rfl) (Nat.le_of_ble_eq_true rfl) (Nat.le_of_ble_eq_true rfl) (Nat.le_of_ble_eq_true rfl) ?_
  refine gn_putF (pc' := 99) (C' := RX11) (T := TX11) (N := 35) (k := 27) (ty := (.array .int)) dX11_init_96 rfl (gtb_at 1302 (by decide +kernel) rfl) tyX11 tyX11_ok nmX11 iX11g rfl (by decide) rfl rfl (by decide +kernel) rfl rfl (Nat.le_of_ble_eq_true rfl) ?_
  refine gn_aload0 (pc' := 100) dX11_init_99 rfl rfl ?_
  refine gn_bipush (pc' := 102) dX11_init_100 rfl (by decide) ?_
  refine gn_newa (pc' := 104) (atype := .int) (ty := .int) (k := 0) (N := 18) (a0 := ((18, .inl (fun _ => 0)) : vp_A)) dX11_init_102 rfl rfl rfl (gtb_at 138 (by decide +kernel) rfl) (fun _ => rfl) (Nat.le_of_ble_eq_true rfl) (Nat.le_of_ble_eq_true rfl) (Nat.le_of_ble_eq_true rfl) (Nat.le_of_ble_eq_true rfl) ?_
  refine gn_putF (pc' := 107) (C' := RX11) (T := TX11) (N := 35) (k := 28) (ty := (.array .int)) dX11_init_104 rfl (gtb_at 1303 (by decide +kernel) rfl) tyX11 tyX11_ok nmX11 iX11g rfl (by decide) rfl rfl (by decide +kernel) rfl rfl (Nat.le_of_ble_eq_true rfl) ?_
  refine gn_aload0 (pc' := 108) dX11_init_107 rfl rfl ?_
  refine gn_sipush (pc' := 111) dX11_init_108 rfl (by decide) ?_
  refine gn_newa (pc' := 113) (atype := .int) (ty := .int) (k := 0) (N := 984) (a0 := ((984, .inl (fun _ => 0)) : vp_A)) dX11_init_111 rfl rfl rfl (gtb_at 138 (by decide +kernel) rfl) (fun _ => rfl) (Nat.le_of_ble_eq_true rfl) (Nat.le_of_ble_eq_true rfl) (Nat.le_of_ble_eq_true rfl) (Nat.le_of_ble_eq_true rfl) ?_
  refine gn_putF (pc' := 116) (C' := RX11) (T := TX11) (N := 35) (k := 29) (ty := (.array .int)) dX11_init_113 rfl (gtb_at 1304 (by decide +kernel) rfl) tyX11 tyX11_ok nmX11 iX11g rfl (by decide) rfl rfl (by decide +kernel) rfl rfl (Nat.le_of_ble_eq_true rfl) ?_
  exact gn_ret dX11_init_116 rfl rfl rfl
