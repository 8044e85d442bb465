/-! constructors: the book of acts -/
def presE (aC : Nat → ClassId) (b : Nat) : List va_E := [.inr (2, [.int 0, .int 0, .int 0, .ref (b + 1), .ref (b + 2), .ref (b + 3)]), iA aC 6, iA aC 6, iA aC 7]
def presL (aC : Nat → ClassId) (b : Nat) : Nat → List va_E
  | 0 => []
  | k + 1 => presL aC b k ++ presE aC (b + 4 * k)
def fQ (b : Nat) : Nat → Nat → Option Nat
  | 0 => fun _ => none
  | k + 1 => va_up (fQ b k) k (some (b + 4 * k))
theorem presL_len {aC : Nat → ClassId} {b : Nat} : ∀ k, (presL aC b k).length = 4 * k
  | 0 => rfl
  | k + 1 => by
    show (presL aC b k ++ presE aC (b + 4 * k)).length = _
    rw [List.length_append, presL_len k]
    show 4 * k + 4 = _
    omega
def histE (aC : Nat → ClassId) (z k m : Nat) : List va_E := [qA aC 3 16 (fQ (z + 2) k), qA aC 3 3 (fQ (z + 66) m)] ++ presL aC (z + 2) (k + m)
theorem histE_len {aC : Nat → ClassId} {z k m : Nat} : (histE aC z k m).length = 2 + 4 * (k + m) := by
  unfold histE
  rw [List.length_append, presL_len]
  rfl
def hFs (z : Nat) : List Value := [.ref z, .ref (z + 1), .int 0, .int 0, .int 0]
def nF_X2 (aC : Nat → ClassId) (z : Nat) : List Value × List va_E := (hFs z, histE aC z 16 3)
theorem okn_X2 : gOkM yX2_init 0 := ⟨by decide +kernel, by decide +kernel, by decide +kernel⟩
theorem n_hist1 {aC : Nat → ClassId} {a z : Nat} {F : List Value × List va_E} (kx : gN RX2 cX2_init 2 2 78 494 aC a z 1 419 48 [some (.ref a), none] [] (hFs z) (histE aC z 16 0) F) : ∀ m k, k + m = 16 → gN RX2 cX2_init 2 2 78 494 aC a z 1 (19 + 25 * k) 23 [some (.ref a), some (.int (zI (k : Int)))] [] (hFs z) (histE aC z k 0) F := by
  intro m
  induction m with
  | zero =>
    intro k hk
    have e : k = 16 := by omega
    subst e
    refine gn_iload1 (pc' := 24) dX2_init_23 rfl rfl ?_
    refine gn_bipush (pc' := 26) dX2_init_24 rfl (by decide) ?_
    refine gn_icmp_ge (pc' := 29) (tgt := 48) dX2_init_26 (by decide) rfl (by decide) (by decide) (fun _ => ?_) (fun w => absurd w (by decide))
    exact gn_wk kx (by exact ⟨rfl, True.intro⟩)
  | succ m ih =>
    intro k hk
    refine gn_iload1 (pc' := 24) dX2_init_23 rfl rfl ?_
    refine gn_bipush (pc' := 26) dX2_init_24 rfl (by decide) ?_
    refine gn_icmp_ge (pc' := 29) (tgt := 48) dX2_init_26 (by decide) rfl (by omega) (by decide) (fun w => by exfalso; omega) (fun _ => ?_)
    have hl := histE_len (aC := aC) (z := z) (k := k) (m := 0)
    obtain ⟨E, hE⟩ : ∃ E, E = histE aC z k 0 := ⟨_, rfl⟩
    have h0 : E[0]? = some (.inl (aC 3, 16, .inr (.inr (.inr (.inr (fQ (z + 2) k)))))) := by rw [hE]; rfl
    rw [← hE] at hl ⊢
    refine gn_aload0 (pc' := 30) dX2_init_29 rfl rfl ?_
    refine gn_get0 (pc' := 33) (C' := RX2) (T := TX2) (N := 5) (k := 0) (x := z + 0) dX2_init_30 rfl (gtb_at 299 (by decide +kernel) rfl) iX2g rfl (by decide) rfl ?_
    refine gn_iload1 (pc' := 34) dX2_init_33 rfl rfl ?_
    refine gn_new (pc' := 37) (C' := RX3) (T := TX3) (N := 6) (cj := 2) (f0 := dfX3) dX2_init_34 rfl (gtb_at 296 (by decide +kernel) rfl) (gtb_at 262 (by decide +kernel) rfl) (gtb_at 6 (by decide +kernel) rfl) tyX3 tyX3_ok iX3g rfl dfX3_ok (by omega) (by omega) ?_
    refine gn_dup (pc' := 38) dX2_init_37 rfl rfl ?_
    refine gn_initN (pc' := 41) (host := "GrudgeLoft") n_X3 dX2_init_38 rfl rfl okn_X3 (gtb_at 298 (by decide +kernel) rfl) (gtb_at 264 (by decide +kernel) rfl) (gtb_at 6 (by decide +kernel) rfl) (gtb_at 265 (by decide +kernel) rfl) (by decide) (by decide) (Nat.le_of_ble_eq_true rfl) rfl (by omega) (by omega) ?_
    refine gn_aast (pc' := 42) (j := 0) (i := E.length) (N := 16) (k := k) (f := fQ (z + 2) k) dX2_init_41 rfl rfl ?_ ?_ rfl (by omega) (by decide) ?_
    · rw [List.append_assoc, List.getElem?_append_left (by omega)]
      exact h0
    · rw [List.append_assoc, List.getElem?_append_right (Nat.le_refl _), Nat.sub_self]
      rfl
    refine gn_iinc1 (pc' := 45) dX2_init_42 rfl rfl (by decide) ?_
    refine gn_goto (pc' := 23) dX2_init_45 (by decide) ?_
    have e1 : (E ++ [.inr (2, (nF_X3 aC (z + (E.length + 1))).1)] ++ (nF_X3 aC (z + (E.length + 1))).2).set 0 (.inl (aC 3, 16, .inr (.inr (.inr (.inr (va_up (fQ (z + 2) k) k (some (z + E.length)))))))) = histE aC z (k + 1) 0 := by
      rw [hl, hE]
      show _ = [qA aC 3 16 (va_up (fQ (z + 2) k) k (some (z + 2 + 4 * k))), qA aC 3 3 (fQ (z + 66) 0)] ++ (presL aC (z + 2) (k) ++ presE aC (z + 2 + 4 * (k)))
      rw [show z + (2 + 4 * (k + 0)) = z + 2 + 4 * k by omega, show z + 2 + 4 * (k) = z + (2 + 4 * (k + 0)) by omega, ← List.append_assoc, List.append_assoc (histE aC z k 0)]
      rfl
    rw [e1]
    have w := ih (k + 1) (by omega)
    rw [show 19 + 25 * (k + 1) = 19 + 25 * k + 6 + 19 by omega] at w
    exact gn_wk w (by exact ⟨rfl, rfl, True.intro⟩)
theorem n_hist2 {aC : Nat → ClassId} {a z : Nat} {F : List Value × List va_E} (kx : gN RX2 cX2_init 2 2 78 494 aC a z 1 494 74 [some (.ref a), none] [] (hFs z) (histE aC z 16 3) F) : ∀ m k, k + m = 3 → gN RX2 cX2_init 2 2 78 494 aC a z 1 (419 + 25 * k) 50 [some (.ref a), some (.int (zI (k : Int)))] [] (hFs z) (histE aC z 16 k) F := by
  intro m
  induction m with
  | zero =>
    intro k hk
    have e : k = 3 := by omega
    subst e
    refine gn_iload1 (pc' := 51) dX2_init_50 rfl rfl ?_
    refine gn_iconst (pc' := 52) dX2_init_51 rfl ?_
    refine gn_icmp_ge (pc' := 55) (tgt := 74) dX2_init_52 (by decide) rfl (by decide) (by decide) (fun _ => ?_) (fun w => absurd w (by decide))
    exact gn_wk kx (by exact ⟨rfl, True.intro⟩)
  | succ m ih =>
    intro k hk
    refine gn_iload1 (pc' := 51) dX2_init_50 rfl rfl ?_
    refine gn_iconst (pc' := 52) dX2_init_51 rfl ?_
    refine gn_icmp_ge (pc' := 55) (tgt := 74) dX2_init_52 (by decide) rfl (by omega) (by decide) (fun w => by exfalso; omega) (fun _ => ?_)
    have hl := histE_len (aC := aC) (z := z) (k := 16) (m := k)
    obtain ⟨E, hE⟩ : ∃ E, E = histE aC z 16 k := ⟨_, rfl⟩
    have h0 : E[1]? = some (.inl (aC 3, 3, .inr (.inr (.inr (.inr (fQ (z + 66) k)))))) := by rw [hE]; rfl
    rw [← hE] at hl ⊢
    refine gn_aload0 (pc' := 56) dX2_init_55 rfl rfl ?_
    refine gn_get0 (pc' := 59) (C' := RX2) (T := TX2) (N := 5) (k := 1) (x := z + 1) dX2_init_56 rfl (gtb_at 300 (by decide +kernel) rfl) iX2g rfl (by decide) rfl ?_
    refine gn_iload1 (pc' := 60) dX2_init_59 rfl rfl ?_
    refine gn_new (pc' := 63) (C' := RX3) (T := TX3) (N := 6) (cj := 2) (f0 := dfX3) dX2_init_60 rfl (gtb_at 296 (by decide +kernel) rfl) (gtb_at 262 (by decide +kernel) rfl) (gtb_at 6 (by decide +kernel) rfl) tyX3 tyX3_ok iX3g rfl dfX3_ok (by omega) (by omega) ?_
    refine gn_dup (pc' := 64) dX2_init_63 rfl rfl ?_
    refine gn_initN (pc' := 67) (host := "GrudgeLoft") n_X3 dX2_init_64 rfl rfl okn_X3 (gtb_at 298 (by decide +kernel) rfl) (gtb_at 264 (by decide +kernel) rfl) (gtb_at 6 (by decide +kernel) rfl) (gtb_at 265 (by decide +kernel) rfl) (by decide) (by decide) (Nat.le_of_ble_eq_true rfl) rfl (by omega) (by omega) ?_
    refine gn_aast (pc' := 68) (j := 1) (i := E.length) (N := 3) (k := k) (f := fQ (z + 66) k) dX2_init_67 rfl rfl ?_ ?_ rfl (by omega) (by decide) ?_
    · rw [List.append_assoc, List.getElem?_append_left (by omega)]
      exact h0
    · rw [List.append_assoc, List.getElem?_append_right (Nat.le_refl _), Nat.sub_self]
      rfl
    refine gn_iinc1 (pc' := 71) dX2_init_68 rfl rfl (by decide) ?_
    refine gn_goto (pc' := 50) dX2_init_71 (by decide) ?_
    have e1 : (E ++ [.inr (2, (nF_X3 aC (z + (E.length + 1))).1)] ++ (nF_X3 aC (z + (E.length + 1))).2).set 1 (.inl (aC 3, 3, .inr (.inr (.inr (.inr (va_up (fQ (z + 66) k) k (some (z + E.length)))))))) = histE aC z 16 (k + 1) := by
      rw [hl, hE]
      show _ = [qA aC 3 16 (fQ (z + 2) 16), qA aC 3 3 (va_up (fQ (z + 66) k) k (some (z + 66 + 4 * k)))] ++ (presL aC (z + 2) (16 + k) ++ presE aC (z + 2 + 4 * (16 + k)))
      rw [show z + (2 + 4 * (16 + k)) = z + 66 + 4 * k by omega, show z + 2 + 4 * (16 + k) = z + (2 + 4 * (16 + k)) by omega, ← List.append_assoc, List.append_assoc (histE aC z 16 k)]
      rfl
    rw [e1]
    have w := ih (k + 1) (by omega)
    rw [show 419 + 25 * (k + 1) = 419 + 25 * k + 6 + 19 by omega] at w
    exact gn_wk w (by exact ⟨rfl, rfl, True.intro⟩)
set_option maxRecDepth 20000 in
theorem n_X2 : nSp 2 yX2_init cX2_init 2 1 78 494 dfX2 nF_X2 := by
  refine nSp_of (by decide +kernel) rfl (by decide) (fun aC a z => ?_)
  show gN RX2 cX2_init 2 2 78 494 aC a z 1 0 0 [some (.ref a), none] [] dfX2 [] _
  refine gn_aload0 (pc' := 1) dX2_init_0 rfl rfl ?_
  refine gn_obj (pc' := 4) dX2_init_1 rfl (gtb_at 295 (by decide +kernel) rfl) (gtb_at 30 (by decide +kernel) rfl) (gtb_at 31 (by decide +kernel) rfl) (by decide) (Nat.le_of_ble_eq_true rfl) ?_
  refine gn_aload0 (pc' := 5) dX2_init_4 rfl rfl ?_
  refine gn_bipush (pc' := 7) dX2_init_5 rfl (by decide) ?_
  refine gn_newq (pc' := 10) (N := 16) dX2_init_7 rfl (gtb_at 296 (by decide +kernel) rfl) rfl (Nat.le_of_ble_eq_true rfl) (Nat.le_of_ble_eq_true rfl) (Nat.le_of_ble_eq_true rfl) ?_
  refine gn_putF (pc' := 13) (C' := RX2) (T := TX2) (N := 5) (k := 0) (ty := .array (.object RX3)) dX2_init_10 rfl (gtb_at 299 (by decide +kernel) rfl) tyX2 tyX2_ok nmX2 iX2g rfl (by decide) rfl rfl (by decide +kernel) rfl rfl (Nat.le_of_ble_eq_true rfl) ?_
  refine gn_aload0 (pc' := 14) dX2_init_13 rfl rfl ?_
  refine gn_iconst (pc' := 15) dX2_init_14 rfl ?_
  refine gn_newq (pc' := 18) (N := 3) dX2_init_15 rfl (gtb_at 296 (by decide +kernel) rfl) rfl (Nat.le_of_ble_eq_true rfl) (Nat.le_of_ble_eq_true rfl) (Nat.le_of_ble_eq_true rfl) ?_
  refine gn_putF (pc' := 21) (C' := RX2) (T := TX2) (N := 5) (k := 1) (ty := .array (.object RX3)) dX2_init_18 rfl (gtb_at 300 (by decide +kernel) rfl) tyX2 tyX2_ok nmX2 iX2g rfl (by decide) rfl rfl (by decide +kernel) rfl rfl (Nat.le_of_ble_eq_true rfl) ?_
  refine gn_iconst (pc' := 22) dX2_init_21 rfl ?_
  refine gn_istore1 (pc' := 23) dX2_init_22 rfl (by decide) ?_
  refine gn_wk (n_hist1 ?_ 16 0 rfl) (by exact ⟨rfl, rfl, True.intro⟩)
  refine gn_iconst (pc' := 49) dX2_init_48 rfl ?_
  refine gn_istore1 (pc' := 50) dX2_init_49 rfl (by decide) ?_
  refine gn_wk (n_hist2 ?_ 3 0 rfl) (by exact ⟨rfl, rfl, True.intro⟩)
  exact gn_ret dX2_init_74 histE_len rfl rfl
