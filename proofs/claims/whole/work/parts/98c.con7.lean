/-! the constructor of the class itself -/
def nF_X10 (aC : Nat → ClassId) (z : Nat) : List Value × List va_E := ([.ref (z + 0), .ref (z + 28), .ref (z + 32), .ref (z + 111), .ref (z + 114), .ref (z + 117), .ref (z + 118), .int 0, .int 0, .int 0], [.inr (3, (nF_X4 aC (z + 1)).1)] ++ (nF_X4 aC (z + 1)).2 ++ [.inr (2, (nF_X3 aC (z + 29)).1)] ++ (nF_X3 aC (z + 29)).2 ++ [.inr (1, (nF_X2 aC (z + 33)).1)] ++ (nF_X2 aC (z + 33)).2 ++ [.inr (0, (nF_X0 aC (z + 112)).1)] ++ (nF_X0 aC (z + 112)).2 ++ [.inr (4, (nF_X5 aC (z + 115)).1)] ++ (nF_X5 aC (z + 115)).2 ++ [.inr (5, (nF_X6 aC (z + 118)).1)] ++ (nF_X6 aC (z + 118)).2 ++ [.inr (8, (nF_X9 aC (z + 119)).1)] ++ (nF_X9 aC (z + 119)).2)
theorem okn_X10 : gOkM yX10_init 0 := ⟨by decide +kernel, by decide +kernel, by decide +kernel⟩
set_option maxRecDepth 20000 in
theorem n_X10 : nSp 4 yX10_init cX10_init 1 9 141 2274 dfX10 nF_X10 := by
  refine nSp_of (by decide +kernel) rfl (by decide) (fun aC a z => ?_)
  show gN RX10 cX10_init 1 4 141 2274 aC a z 9 0 0 [some (.ref a)] [] dfX10 [] _
  obtain ⟨E0, hE0⟩ : ∃ E0 : List va_E, E0 = [] := ⟨_, rfl⟩
  have hl0 : E0.length = 0 := by rw [hE0]; rfl
  show gN RX10 cX10_init 1 4 141 2274 aC a z 9 0 0 [some (.ref a)] [] dfX10 [] _
  rw [← hE0]
  refine gn_aload0 (pc' := 1) dX10_init_0 rfl rfl ?_
  refine gn_obj (pc' := 4) dX10_init_1 rfl (gtb_at 29 (by decide +kernel) rfl) (gtb_at 30 (by decide +kernel) rfl) (gtb_at 31 (by decide +kernel) rfl) (by decide) (Nat.le_of_ble_eq_true rfl) ?_
  refine gn_aload0 (pc' := 5) dX10_init_4 rfl rfl ?_
  refine gn_new (pc' := 8) (C' := RX4) (T := TX4) (N := 9) (cj := 3) (f0 := dfX4) dX10_init_5 rfl (gtb_at 32 (by decide +kernel) rfl) (gtb_at 33 (by decide +kernel) rfl) (gtb_at 2 (by decide +kernel) rfl) tyX4 tyX4_ok iX4g rfl dfX4_ok (by omega) (Nat.le_of_ble_eq_true rfl) ?_
  refine gn_dup (pc' := 9) dX10_init_8 rfl rfl ?_
  refine gn_initN (pc' := 12) (host := "GrudgeLoft") n_X4 dX10_init_9 rfl rfl okn_X4 (gtb_at 34 (by decide +kernel) rfl) (gtb_at 35 (by decide +kernel) rfl) (gtb_at 2 (by decide +kernel) rfl) (gtb_at 36 (by decide +kernel) rfl) (by decide) (by decide) (Nat.le_of_ble_eq_true rfl) rfl (by omega) (Nat.le_of_ble_eq_true rfl) ?_
  refine gn_putF (pc' := 15) (C' := RX10) (T := TX10) (N := 10) (k := 0) (ty := (.object "GrudgeLoft$Reade\x72")) dX10_init_12 rfl (gtb_at 355 (by decide +kernel) rfl) tyX10 tyX10_ok nmX10 iX10g rfl (by decide) rfl rfl (by decide +kernel) rfl rfl (Nat.le_of_ble_eq_true rfl) ?_
  rw [hl0]
  obtain ⟨E1, hE1⟩ : ∃ E1, E1 = E0 ++ [(.inr (3, (nF_X4 aC (z + 1)).1) : va_E)] ++ (nF_X4 aC (z + 1)).2 := ⟨_, rfl⟩
  have hl1 : E1.length = 28 := by rw [hE1, List.length_append, List.length_append, hl0]; rfl
  show gN RX10 cX10_init 1 4 141 2274 aC a z 9 1213 15 [some (.ref a)] [] [.ref (z + 0), .null, .null, .null, .null, .null, .null, .int 0, .int 0, .int 0] (E0 ++ [(.inr (3, (nF_X4 aC (z + 1)).1) : va_E)] ++ (nF_X4 aC (z + 1)).2) _
  rw [← hE1]
  refine gn_aload0 (pc' := 16) dX10_init_15 rfl rfl ?_
  refine gn_new (pc' := 19) (C' := RX3) (T := TX3) (N := 6) (cj := 2) (f0 := dfX3) dX10_init_16 rfl (gtb_at 261 (by decide +kernel) rfl) (gtb_at 262 (by decide +kernel) rfl) (gtb_at 6 (by decide +kernel) rfl) tyX3 tyX3_ok iX3g rfl dfX3_ok (by omega) (Nat.le_of_ble_eq_true rfl) ?_
  refine gn_dup (pc' := 20) dX10_init_19 rfl rfl ?_
  refine gn_initN (pc' := 23) (host := "GrudgeLoft") n_X3 dX10_init_20 rfl rfl okn_X3 (gtb_at 263 (by decide +kernel) rfl) (gtb_at 264 (by decide +kernel) rfl) (gtb_at 6 (by decide +kernel) rfl) (gtb_at 265 (by decide +kernel) rfl) (by decide) (by decide) (Nat.le_of_ble_eq_true rfl) rfl (by omega) (Nat.le_of_ble_eq_true rfl) ?_
  refine gn_putF (pc' := 26) (C' := RX10) (T := TX10) (N := 10) (k := 1) (ty := (.object "GrudgeLoft$Present")) dX10_init_23 rfl (gtb_at 356 (by decide +kernel) rfl) tyX10 tyX10_ok nmX10 iX10g rfl (by decide) rfl rfl (by decide +kernel) rfl rfl (Nat.le_of_ble_eq_true rfl) ?_
  rw [hl1]
  obtain ⟨E2, hE2⟩ : ∃ E2, E2 = E1 ++ [(.inr (2, (nF_X3 aC (z + 29)).1) : va_E)] ++ (nF_X3 aC (z + 29)).2 := ⟨_, rfl⟩
  have hl2 : E2.length = 32 := by rw [hE2, List.length_append, List.length_append, hl1]; rfl
  show gN RX10 cX10_init 1 4 141 2274 aC a z 9 1238 26 [some (.ref a)] [] [.ref (z + 0), .ref (z + 28), .null, .null, .null, .null, .null, .int 0, .int 0, .int 0] (E1 ++ [(.inr (2, (nF_X3 aC (z + 29)).1) : va_E)] ++ (nF_X3 aC (z + 29)).2) _
  rw [← hE2]
  refine gn_aload0 (pc' := 27) dX10_init_26 rfl rfl ?_
  refine gn_new (pc' := 30) (C' := RX2) (T := TX2) (N := 5) (cj := 1) (f0 := dfX2) dX10_init_27 rfl (gtb_at 290 (by decide +kernel) rfl) (gtb_at 291 (by decide +kernel) rfl) (gtb_at 7 (by decide +kernel) rfl) tyX2 tyX2_ok iX2g rfl dfX2_ok (by omega) (Nat.le_of_ble_eq_true rfl) ?_
  refine gn_dup (pc' := 31) dX10_init_30 rfl rfl ?_
  refine gn_initI (pc' := 34) n_X2 dX10_init_31 rfl rfl okn_X2 (gtb_at 292 (by decide +kernel) rfl) (gtb_at 293 (by decide +kernel) rfl) (gtb_at 7 (by decide +kernel) rfl) (gtb_at 294 (by decide +kernel) rfl) (by decide) (by decide) (Nat.le_of_ble_eq_true rfl) rfl (by omega) (Nat.le_of_ble_eq_true rfl) ?_
  refine gn_putF (pc' := 37) (C' := RX10) (T := TX10) (N := 10) (k := 2) (ty := (.object "GrudgeLoft$History")) dX10_init_34 rfl (gtb_at 357 (by decide +kernel) rfl) tyX10 tyX10_ok nmX10 iX10g rfl (by decide) rfl rfl (by decide +kernel) rfl rfl (Nat.le_of_ble_eq_true rfl) ?_
  rw [hl2]
  obtain ⟨E3, hE3⟩ : ∃ E3, E3 = E2 ++ [(.inr (1, (nF_X2 aC (z + 33)).1) : va_E)] ++ (nF_X2 aC (z + 33)).2 := ⟨_, rfl⟩
  have hl3 : E3.length = 111 := by rw [hE3, List.length_append, List.length_append, hl2]; rfl
  show gN RX10 cX10_init 1 4 141 2274 aC a z 9 1737 37 [some (.ref a)] [] [.ref (z + 0), .ref (z + 28), .ref (z + 32), .null, .null, .null, .null, .int 0, .int 0, .int 0] (E2 ++ [(.inr (1, (nF_X2 aC (z + 33)).1) : va_E)] ++ (nF_X2 aC (z + 33)).2) _
  rw [← hE3]
  refine gn_aload0 (pc' := 38) dX10_init_37 rfl rfl ?_
  refine gn_new (pc' := 41) (C' := RX0) (T := TX0) (N := 2) (cj := 0) (f0 := dfX0) dX10_init_38 rfl (gtb_at 317 (by decide +kernel) rfl) (gtb_at 318 (by decide +kernel) rfl) (gtb_at 8 (by decide +kernel) rfl) tyX0 tyX0_ok iX0g rfl dfX0_ok (by omega) (Nat.le_of_ble_eq_true rfl) ?_
  refine gn_dup (pc' := 42) dX10_init_41 rfl rfl ?_
  refine gn_initN (pc' := 45) (host := "GrudgeLoft") n_X0 dX10_init_42 rfl rfl okn_X0 (gtb_at 319 (by decide +kernel) rfl) (gtb_at 320 (by decide +kernel) rfl) (gtb_at 8 (by decide +kernel) rfl) (gtb_at 321 (by decide +kernel) rfl) (by decide) (by decide) (Nat.le_of_ble_eq_true rfl) rfl (by omega) (Nat.le_of_ble_eq_true rfl) ?_
  refine gn_putF (pc' := 48) (C' := RX10) (T := TX10) (N := 10) (k := 3) (ty := (.object "GrudgeLoft$Amends")) dX10_init_45 rfl (gtb_at 358 (by decide +kernel) rfl) tyX10 tyX10_ok nmX10 iX10g rfl (by decide) rfl rfl (by decide +kernel) rfl rfl (Nat.le_of_ble_eq_true rfl) ?_
  rw [hl3]
  obtain ⟨E4, hE4⟩ : ∃ E4, E4 = E3 ++ [(.inr (0, (nF_X0 aC (z + 112)).1) : va_E)] ++ (nF_X0 aC (z + 112)).2 := ⟨_, rfl⟩
  have hl4 : E4.length = 114 := by rw [hE4, List.length_append, List.length_append, hl3]; rfl
  show gN RX10 cX10_init 1 4 141 2274 aC a z 9 1995 48 [some (.ref a)] [] [.ref (z + 0), .ref (z + 28), .ref (z + 32), .ref (z + 111), .null, .null, .null, .int 0, .int 0, .int 0] (E3 ++ [(.inr (0, (nF_X0 aC (z + 112)).1) : va_E)] ++ (nF_X0 aC (z + 112)).2) _
  rw [← hE4]
  refine gn_aload0 (pc' := 49) dX10_init_48 rfl rfl ?_
  refine gn_new (pc' := 52) (C' := RX5) (T := TX5) (N := 2) (cj := 4) (f0 := dfX5) dX10_init_49 rfl (gtb_at 330 (by decide +kernel) rfl) (gtb_at 331 (by decide +kernel) rfl) (gtb_at 9 (by decide +kernel) rfl) tyX5 tyX5_ok iX5g rfl dfX5_ok (by omega) (Nat.le_of_ble_eq_true rfl) ?_
  refine gn_dup (pc' := 53) dX10_init_52 rfl rfl ?_
  refine gn_initN (pc' := 56) (host := "GrudgeLoft") n_X5 dX10_init_53 rfl rfl okn_X5 (gtb_at 332 (by decide +kernel) rfl) (gtb_at 333 (by decide +kernel) rfl) (gtb_at 9 (by decide +kernel) rfl) (gtb_at 334 (by decide +kernel) rfl) (by decide) (by decide) (Nat.le_of_ble_eq_true rfl) rfl (by omega) (Nat.le_of_ble_eq_true rfl) ?_
  refine gn_putF (pc' := 59) (C' := RX10) (T := TX10) (N := 10) (k := 4) (ty := (.object "GrudgeLoft$Rings")) dX10_init_56 rfl (gtb_at 359 (by decide +kernel) rfl) tyX10 tyX10_ok nmX10 iX10g rfl (by decide) rfl rfl (by decide +kernel) rfl rfl (Nat.le_of_ble_eq_true rfl) ?_
  rw [hl4]
  obtain ⟨E5, hE5⟩ : ∃ E5, E5 = E4 ++ [(.inr (4, (nF_X5 aC (z + 115)).1) : va_E)] ++ (nF_X5 aC (z + 115)).2 := ⟨_, rfl⟩
  have hl5 : E5.length = 117 := by rw [hE5, List.length_append, List.length_append, hl4]; rfl
  show gN RX10 cX10_init 1 4 141 2274 aC a z 9 2009 59 [some (.ref a)] [] [.ref (z + 0), .ref (z + 28), .ref (z + 32), .ref (z + 111), .ref (z + 114), .null, .null, .int 0, .int 0, .int 0] (E4 ++ [(.inr (4, (nF_X5 aC (z + 115)).1) : va_E)] ++ (nF_X5 aC (z + 115)).2) _
  rw [← hE5]
  refine gn_aload0 (pc' := 60) dX10_init_59 rfl rfl ?_
  refine gn_new (pc' := 63) (C' := RX6) (T := TX6) (N := 1) (cj := 5) (f0 := dfX6) dX10_init_60 rfl (gtb_at 343 (by decide +kernel) rfl) (gtb_at 344 (by decide +kernel) rfl) (gtb_at 10 (by decide +kernel) rfl) tyX6 tyX6_ok iX6g rfl dfX6_ok (by omega) (Nat.le_of_ble_eq_true rfl) ?_
  refine gn_dup (pc' := 64) dX10_init_63 rfl rfl ?_
  refine gn_initN (pc' := 67) (host := "GrudgeLoft") n_X6 dX10_init_64 rfl rfl okn_X6 (gtb_at 345 (by decide +kernel) rfl) (gtb_at 346 (by decide +kernel) rfl) (gtb_at 10 (by decide +kernel) rfl) (gtb_at 347 (by decide +kernel) rfl) (by decide) (by decide) (Nat.le_of_ble_eq_true rfl) rfl (by omega) (Nat.le_of_ble_eq_true rfl) ?_
  refine gn_putF (pc' := 70) (C' := RX10) (T := TX10) (N := 10) (k := 5) (ty := (.object "GrudgeLoft$Storms")) dX10_init_67 rfl (gtb_at 360 (by decide +kernel) rfl) tyX10 tyX10_ok nmX10 iX10g rfl (by decide) rfl rfl (by decide +kernel) rfl rfl (Nat.le_of_ble_eq_true rfl) ?_
  rw [hl5]
  obtain ⟨E6, hE6⟩ : ∃ E6, E6 = E5 ++ [(.inr (5, (nF_X6 aC (z + 118)).1) : va_E)] ++ (nF_X6 aC (z + 118)).2 := ⟨_, rfl⟩
  have hl6 : E6.length = 118 := by rw [hE6, List.length_append, List.length_append, hl5]; rfl
  show gN RX10 cX10_init 1 4 141 2274 aC a z 9 2010 70 [some (.ref a)] [] [.ref (z + 0), .ref (z + 28), .ref (z + 32), .ref (z + 111), .ref (z + 114), .ref (z + 117), .null, .int 0, .int 0, .int 0] (E5 ++ [(.inr (5, (nF_X6 aC (z + 118)).1) : va_E)] ++ (nF_X6 aC (z + 118)).2) _
  rw [← hE6]
  refine gn_aload0 (pc' := 71) dX10_init_70 rfl rfl ?_
  refine gn_new (pc' := 74) (C' := RX9) (T := TX9) (N := 15) (cj := 8) (f0 := dfX9) dX10_init_71 rfl (gtb_at 353 (by decide +kernel) rfl) (gtb_at 76 (by decide +kernel) rfl) (gtb_at 4 (by decide +kernel) rfl) tyX9 tyX9_ok iX9g rfl dfX9_ok (by omega) (Nat.le_of_ble_eq_true rfl) ?_
  refine gn_dup (pc' := 75) dX10_init_74 rfl rfl ?_
  refine gn_initN (pc' := 78) (host := "GrudgeLoft") n_X9 dX10_init_75 rfl rfl okn_X9 (gtb_at 354 (by decide +kernel) rfl) (gtb_at 78 (by decide +kernel) rfl) (gtb_at 4 (by decide +kernel) rfl) (gtb_at 79 (by decide +kernel) rfl) (by decide) (by decide) (Nat.le_of_ble_eq_true rfl) rfl (by omega) (Nat.le_of_ble_eq_true rfl) ?_
  refine gn_put (pc' := 81) (C' := RX10) (T := TX10) (N := 10) (k := 6) (ty := (.object "GrudgeLoft$Town")) dX10_init_78 rfl (gtb_at 361 (by decide +kernel) rfl) tyX10 tyX10_ok nmX10 iX10g rfl (by decide) rfl (by decide +kernel) rfl rfl (Nat.le_of_ble_eq_true rfl) ?_
  rw [hl6]
  obtain ⟨E7, hE7⟩ : ∃ E7, E7 = E6 ++ [(.inr (8, (nF_X9 aC (z + 119)).1) : va_E)] ++ (nF_X9 aC (z + 119)).2 := ⟨_, rfl⟩
  have hl7 : E7.length = 141 := by rw [hE7, List.length_append, List.length_append, hl6]; rfl
  show gN RX10 cX10_init 1 4 141 2274 aC a z 9 2274 81 [some (.ref a)] [] [.ref (z + 0), .ref (z + 28), .ref (z + 32), .ref (z + 111), .ref (z + 114), .ref (z + 117), .ref (z + 118), .int 0, .int 0, .int 0] (E6 ++ [(.inr (8, (nF_X9 aC (z + 119)).1) : va_E)] ++ (nF_X9 aC (z + 119)).2) _
  rw [← hE7]
  exact gn_ret dX10_init_81 (by rw [hl7]) rfl (by subst hE7 hE6 hE5 hE4 hE3 hE2 hE1 hE0; rfl)
