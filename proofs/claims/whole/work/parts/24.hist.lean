/-! copies; the presents ahead and drawn -/
def gcp (h : gH) (o i o' j m : Nat) : gH := (fun a => if a = o' then va_cpy (h.1 o) (h.1 o') i j m else h.1 a, h.2)
theorem gcp_s {h : gH} {o i o' j m : Nat} : (gcp h o i o' j m).1 o' = va_cpy (h.1 o) (h.1 o') i j m := if_pos rfl
theorem gcp_n {h : gH} {o i o' j m a : Nat} (ha : a ≠ o') : (gcp h o i o' j m).1 a = h.1 a := if_neg ha
theorem gui_s {h : gH} {o k : Nat} {x : Int} : (gui h o k x).1 o = up1 (h.1 o) k x := u2_s
theorem gui_n {h : gH} {o k a : Nat} {x : Int} (ha : a ≠ o) : (gui h o k x).1 a = h.1 a := u2_n ha
theorem gcp_0 {f g : Nat → Int} {n k : Nat} (hk : k < n) : va_cpy f g 0 0 n k = f k := by
  unfold va_cpy
  rw [if_pos (by omega), show 0 + (k - 0) = k by omega]
theorem nfw : nativeFrameWords "java/lang/System" "arraycopy" 5 + 11 ≤ 64 := by decide +kernel
theorem gj_copy {own : String} {cc : ByteArray} {nL : Nat} {rt : Option FieldType} {d pc pc' : Nat} {ls : List (Option Value)} {h : gH} {Q : Option Value → gH → Prop} {index o n b t o' n' b' t' : Nat} {sp dp k : Int} {i j m : Nat} (hl : Cond.methodLink own index arraycopyName ∈ gtb) (hs : shp o = .inr (0, n, b, t)) (hs' : shp o' = .inr (0, n', b', t')) (hsp : sp = (i : Int)) (hdp : dp = (j : Int)) (hk : k = (m : Int)) (h1 : i + m ≤ n) (h2 : j + m ≤ n') (hn : n < 100000) (hn' : n' < 100000) (hd0 : 1 ≤ d) (hd : decode cc pc = .ok (.invokestatic index, 3)) (hp : pc + 3 = pc') (kk : gJ own cc nL rt d pc' ls [] (gcp h o i o' j m) Q) : gJ own cc nL rt d pc ls [.int (zI k), .int (zI dp), .ref o', .int (zI sp), .ref o] h Q := by
  subst hp; subst hsp; subst hdp; subst hk
  intro p l e s m0 args below meth c D aC ad C0 H locs lsA hP hS hL
  obtain ⟨hx, hb, hml, hr, hown, hts, hlocks, hK, hinj, hX⟩ := id C0
  have e0 : ∀ a : Nat, a < 100000 → (zI (a : Int)).toNatClampNeg = a := fun a ha => by rw [zI_clamp (by omega), Int.toNat_natCast]
  have ng : ∀ a : Nat, a < 100000 → ¬ zI (a : Int) < 0 := fun a ha => by
    rw [show (0 : Int32) = zI 0 from rfl, zI_lt (by omega) (by omega)]
    omega
  refine va_copyi (own := own) (index := index) (D := D) (ty := .int) hx hb (hml.trans hL.size.symm) hown (hts _ hl) (hts _ (gtb_at 1135 (by decide +kernel) rfl)) (hts _ (gtb_at 1134 (by decide +kernel) rfl)) (hts _ (gtb_at 19 (by decide +kernel) rfl)) hK hP (gw_D hinj) hS o o' 0 0 (a0 := ad o) (a := ad o') (c0 := aC 0) (c1 := aC 0) (n0 := n) (n1 := n') (f := fun j => zI (h.1 o j)) (g := fun j => zI (h.1 o' j)) (by rw [gw_at (shp_ltR hs (by omega)), gcell_R hs]; rfl) (by rw [gw_at (shp_ltR hs' (by omega)), gcell_R hs']; rfl) rfl rfl rfl (ng i (by omega)) (ng j (by omega)) (ng m (by omega)) (by rw [e0 i (by omega), e0 m (by omega)]; exact h1) (by rw [e0 j (by omega), e0 m (by omega)]; exact h2) (fun _ _ => rfl) hd0 (by have := nfw; show 0 + _ ≤ 64 * d; omega) hd (fun H1 locs1 hP1 hD1 hS1 => ?_)
  rw [e0 i (by omega), e0 j (by omega), e0 m (by omega)] at hP1
  rw [gw_set (h' := gcp h o i o' j m) (by
    rw [gcell_R hs']
    show (Sum.inl (aC 0, n', Sum.inl (fun k => zI ((gcp h o i o' j m).1 o' k))) : va_E) = _
    have e2 : (fun k => zI ((gcp h o i o' j m).1 o' k)) = va_cpy (fun j => zI (h.1 o j)) (fun j => zI (h.1 o' j)) i j m := by
      funext k
      rw [gcp_s]
      unfold va_cpy
      split <;> rfl
    rw [e2]) (fun a _ ha => gcell_eq (gcp_n ha) rfl rfl)] at hP1
  exact kk p l e s m0 args below meth c D aC ad C0 H1 locs1 lsA hP1 hS1 hL
-- presents
def isP (p : Nat) : Prop := p = 52 ∨ ∃ j, j < 19 ∧ p = 59 + 4 * j
def shPk (p : Nat) : List (Nat × Nat) := [(0, 0), (0, 0), (0, 0), (2, p + 1), (2, p + 2), (2, p + 3)]
theorem shP0 : ∀ j, j < 19 → shp (59 + 4 * j) = .inl (2, shPk (59 + 4 * j)) ∧ shp (59 + 4 * j + 1) = .inr (0, 6, 0, 0) ∧ shp (59 + 4 * j + 2) = .inr (0, 6, 0, 0) ∧ shp (59 + 4 * j + 3) = .inr (0, 7, 0, 0)
  | 0, _ => ⟨rfl, rfl, rfl, rfl⟩
  | 1, _ => ⟨rfl, rfl, rfl, rfl⟩
  | 2, _ => ⟨rfl, rfl, rfl, rfl⟩
  | 3, _ => ⟨rfl, rfl, rfl, rfl⟩
  | 4, _ => ⟨rfl, rfl, rfl, rfl⟩
  | 5, _ => ⟨rfl, rfl, rfl, rfl⟩
  | 6, _ => ⟨rfl, rfl, rfl, rfl⟩
  | 7, _ => ⟨rfl, rfl, rfl, rfl⟩
  | 8, _ => ⟨rfl, rfl, rfl, rfl⟩
  | 9, _ => ⟨rfl, rfl, rfl, rfl⟩
  | 10, _ => ⟨rfl, rfl, rfl, rfl⟩
  | 11, _ => ⟨rfl, rfl, rfl, rfl⟩
  | 12, _ => ⟨rfl, rfl, rfl, rfl⟩
  | 13, _ => ⟨rfl, rfl, rfl, rfl⟩
  | 14, _ => ⟨rfl, rfl, rfl, rfl⟩
  | 15, _ => ⟨rfl, rfl, rfl, rfl⟩
  | 16, _ => ⟨rfl, rfl, rfl, rfl⟩
  | 17, _ => ⟨rfl, rfl, rfl, rfl⟩
  | 18, _ => ⟨rfl, rfl, rfl, rfl⟩
  | n + 19, h => absurd h (by omega)
theorem shP {p : Nat} (hp : isP p) : shp p = .inl (2, shPk p) ∧ shp (p + 1) = .inr (0, 6, 0, 0) ∧ shp (p + 2) = .inr (0, 6, 0, 0) ∧ shp (p + 3) = .inr (0, 7, 0, 0) := by
  rcases hp with rfl | ⟨j, hj, rfl⟩
  · exact ⟨rfl, rfl, rfl, rfl⟩
  · exact shP0 j hj
def PresAt (h : gH) (p : Nat) (T S : Nat → Nat) : Prop := h.1 p 0 = (S 20 : Int) ∧ h.1 p 1 = (S 21 : Int) ∧ h.1 p 2 = (S 19 : Int) ∧ (∀ k, k < T 3 → h.1 (p + 1) k = (S (13 + k) : Int) ∧ h.1 (p + 2) k = (S (7 + k) : Int)) ∧ (∀ b, b < T 4 → h.1 (p + 3) b = (S b : Int))
theorem PresAt.same {h h' : gH} {p : Nat} {T S : Nat → Nat} (a : PresAt h p T S) (e : ∀ o, p ≤ o → o ≤ p + 3 → h'.1 o = h.1 o) : PresAt h' p T S := by
  obtain ⟨a0, a1, a2, a3, a4⟩ := a
  refine ⟨?_, ?_, ?_, fun k hk => ⟨?_, ?_⟩, fun b hb => ?_⟩
  · rw [e p (by omega) (by omega)]; exact a0
  · rw [e p (by omega) (by omega)]; exact a1
  · rw [e p (by omega) (by omega)]; exact a2
  · rw [e (p + 1) (by omega) (by omega)]; exact (a3 k hk).1
  · rw [e (p + 2) (by omega) (by omega)]; exact (a3 k hk).2
  · rw [e (p + 3) (by omega) (by omega)]; exact a4 b hb
def cpE (h : gH) (p q : Nat) (h' : gH) : Prop := h'.2 = h.2 ∧ (∀ o, o < p ∨ p + 3 < o → h'.1 o = h.1 o) ∧ (∀ k, k < 3 → h'.1 p k = h.1 q k) ∧ (∀ k, k < 6 → h'.1 (p + 1) k = h.1 (q + 1) k ∧ h'.1 (p + 2) k = h.1 (q + 2) k) ∧ (∀ k, k < 7 → h'.1 (p + 3) k = h.1 (q + 3) k)
theorem cpE.at {h h' : gH} {p q : Nat} {T S : Nat → Nat} (hc : cpE h p q h') (h3 : T 3 ≤ 6) (h4 : T 4 ≤ 7) (a : PresAt h q T S) : PresAt h' p T S := by
  obtain ⟨a0, a1, a2, a3, a4⟩ := a
  obtain ⟨-, -, c2, c3, c4⟩ := hc
  refine ⟨?_, ?_, ?_, fun k hk => ⟨?_, ?_⟩, fun b hb => ?_⟩
  · rw [c2 0 (by omega)]; exact a0
  · rw [c2 1 (by omega)]; exact a1
  · rw [c2 2 (by omega)]; exact a2
  · rw [(c3 k (by omega)).1]; exact (a3 k hk).1
  · rw [(c3 k (by omega)).2]; exact (a3 k hk).2
  · rw [c4 b (by omega)]; exact a4 b hb
theorem s_copy {h : gH} {p q : Nat} (hp : isP p) (hq : isP q) (hpq : p + 4 ≤ q ∨ q + 4 ≤ p) : gSp 2 yX3_copy cX3_copy 2 none [.ref p, .ref q] h (fun v h' => v = none ∧ cpE h p q h') := by
  obtain ⟨p0, p1, p2, p3⟩ := shP hp
  obtain ⟨q0, q1, q2, q3⟩ := shP hq
  refine gSp_of (by decide +kernel) (Nat.le_of_ble_eq_true rfl) ?_
  show gJ RX3 cX3_copy 2 none _ 0 [some (.ref p), some (.ref q)] [] _ _
  refine gj_aload_n (pc' := 1) dX3_copy_0 rfl rfl ?_
  refine gj_aload_n (pc' := 2) dX3_copy_1 rfl rfl ?_
  refine gf_X3_23 (pc' := 5) dX3_copy_2 rfl (by first | rfl | assumption) rfl ?_
  refine gp_X3_23 (pc' := 8) dX3_copy_5 rfl (by first | rfl | assumption) rfl ?_
  refine gj_aload_n (pc' := 9) dX3_copy_8 rfl rfl ?_
  refine gj_aload_n (pc' := 10) dX3_copy_9 rfl rfl ?_
  refine gf_X3_27 (pc' := 13) dX3_copy_10 rfl (by first | rfl | assumption) rfl ?_
  rw [gui_n (a := q) (o := p) (by omega)]
  refine gp_X3_27 (pc' := 16) dX3_copy_13 rfl (by first | rfl | assumption) rfl ?_
  refine gj_aload_n (pc' := 17) dX3_copy_16 rfl rfl ?_
  refine gj_aload_n (pc' := 18) dX3_copy_17 rfl rfl ?_
  refine gf_X3_30 (pc' := 21) dX3_copy_18 rfl (by first | rfl | assumption) rfl ?_
  rw [gui_n (a := q) (o := p) (by omega), gui_n (a := q) (o := p) (by omega)]
  refine gp_X3_30 (pc' := 24) dX3_copy_21 rfl (by first | rfl | assumption) rfl ?_
  refine gj_aload_n (pc' := 25) dX3_copy_24 rfl rfl ?_
  refine gf_X3_11 (pc' := 28) dX3_copy_25 rfl (by first | rfl | assumption) rfl ?_
  refine gj_iconst (pc' := 29) dX3_copy_28 rfl ?_
  refine gj_aload_n (pc' := 30) dX3_copy_29 rfl rfl ?_
  refine gf_X3_11 (pc' := 33) dX3_copy_30 rfl (by first | rfl | assumption) rfl ?_
  refine gj_iconst (pc' := 34) dX3_copy_33 rfl ?_
  refine gj_bipush (pc' := 36) dX3_copy_34 rfl (by decide) ?_
  refine gj_copy (pc' := 39) (i := 0) (j := 0) (m := 6) (gtb_at 1133 (by decide +kernel) rfl) (by assumption) (by assumption) rfl rfl rfl (by omega) (by omega) (by decide) (by decide) (by decide) dX3_copy_36 rfl ?_
  refine gj_aload_n (pc' := 40) dX3_copy_39 rfl rfl ?_
  refine gf_X3_17 (pc' := 43) dX3_copy_40 rfl (by first | rfl | assumption) rfl ?_
  refine gj_iconst (pc' := 44) dX3_copy_43 rfl ?_
  refine gj_aload_n (pc' := 45) dX3_copy_44 rfl rfl ?_
  refine gf_X3_17 (pc' := 48) dX3_copy_45 rfl (by first | rfl | assumption) rfl ?_
  refine gj_iconst (pc' := 49) dX3_copy_48 rfl ?_
  refine gj_bipush (pc' := 51) dX3_copy_49 rfl (by decide) ?_
  refine gj_copy (pc' := 54) (i := 0) (j := 0) (m := 6) (gtb_at 1133 (by decide +kernel) rfl) (by assumption) (by assumption) rfl rfl rfl (by omega) (by omega) (by decide) (by decide) (by decide) dX3_copy_51 rfl ?_
  refine gj_aload_n (pc' := 55) dX3_copy_54 rfl rfl ?_
  refine gf_X3_20 (pc' := 58) dX3_copy_55 rfl (by first | rfl | assumption) rfl ?_
  refine gj_iconst (pc' := 59) dX3_copy_58 rfl ?_
  refine gj_aload_n (pc' := 60) dX3_copy_59 rfl rfl ?_
  refine gf_X3_20 (pc' := 63) dX3_copy_60 rfl (by first | rfl | assumption) rfl ?_
  refine gj_iconst (pc' := 64) dX3_copy_63 rfl ?_
  refine gj_bipush (pc' := 66) dX3_copy_64 rfl (by decide) ?_
  refine gj_copy (pc' := 69) (i := 0) (j := 0) (m := 7) (gtb_at 1133 (by decide +kernel) rfl) (by assumption) (by assumption) rfl rfl rfl (by omega) (by omega) (by decide) (by decide) (by decide) dX3_copy_66 rfl ?_
  refine gj_vret rfl dX3_copy_69 ?_
  have n0 : ∀ (a : Nat), a ≠ p → ∀ (x y z : Int), (gui (gui (gui h p 0 x) p 1 y) p 2 z).1 a = h.1 a := fun a ha x y z => (gui_n ha).trans ((gui_n ha).trans (gui_n ha))
  refine ⟨rfl, rfl, fun o ho => ?_, fun k hk => ?_, fun k hk => ⟨?_, ?_⟩, fun k hk => ?_⟩
  · exact (gcp_n (by omega)).trans ((gcp_n (by omega)).trans ((gcp_n (by omega)).trans (n0 o (by omega) _ _ _)))
  · refine (congrFun ((gcp_n (by omega)).trans ((gcp_n (by omega)).trans (gcp_n (by omega)))) k).trans ?_
    rw [gui_s, gui_s, gui_s]
    rcases (show k = 0 ∨ k = 1 ∨ k = 2 by omega) with rfl | rfl | rfl
    · exact (up1_n (by decide)).trans ((up1_n (by decide)).trans up1_s)
    · exact (up1_n (by decide)).trans up1_s
    · exact up1_s
  · refine (congrFun ((gcp_n (by omega)).trans ((gcp_n (by omega)).trans gcp_s)) k).trans ((gcp_0 hk).trans ?_)
    rw [n0 _ (by omega)]
  · refine (congrFun ((gcp_n (by omega)).trans gcp_s) k).trans ((gcp_0 hk).trans ?_)
    exact congrFun ((gcp_n (by omega)).trans (n0 _ (by omega) _ _ _)) k
  · refine (congrFun gcp_s k).trans ((gcp_0 hk).trans ?_)
    exact congrFun ((gcp_n (by omega)).trans ((gcp_n (by omega)).trans (n0 _ (by omega) _ _ _))) k
-- the presents that can come back, as the book of acts keeps them
def XH (h : gH) (T : Nat → Nat) (n : Nat) (U : Nat → Nat → Nat) (m : Nat) (K : Nat → Nat → Nat) : Prop := ∃ x : Nat, x < 16 ∧ n ≤ 16 ∧ m ≤ 3 ∧ h.1 56 2 = (n : Int) ∧ h.1 56 3 = (x : Int) ∧ h.1 56 4 = (m : Int) ∧ (∀ k, k < n → PresAt h (59 + 4 * ((x + 16 - n + k) % 16)) T (U k)) ∧ (∀ i, i < m → PresAt h (123 + 4 * i) T (K i))
def uPn (n : Nat) : Nat := if n = 16 then 16 else n + 1
def uP (n : Nat) (U : Nat → Nat → Nat) (S : Nat → Nat) : Nat → Nat → Nat := fun k => if n = 16 then (if k = 15 then S else U (k + 1)) else if k = n then S else U k
theorem isP_a {x : Nat} (hx : x < 16) : isP (59 + 4 * x) := Or.inr ⟨x, by omega, rfl⟩
theorem isP_d {x : Nat} (hx : x < 3) : isP (123 + 4 * x) := Or.inr ⟨16 + x, by omega, by omega⟩
theorem s_keep {h : gH} {T S : Nat → Nat} {n m : Nat} {U K : Nat → Nat → Nat} (h3 : T 3 ≤ 6) (h4 : T 4 ≤ 7) (hN : PresAt h 52 T S) (hH : XH h T n U m K) : gSp 4 yX2_keep cX2_keep 2 none [.ref 56, .ref 52] h (fun v h' => v = none ∧ h'.2 = h.2 ∧ (∀ o, o < 56 ∨ 123 ≤ o → h'.1 o = h.1 o) ∧ XH h' T (uPn n) (uP n U S) m K) := by
  obtain ⟨x, hx, hn, hm, e2, e3, e4, hU, hK⟩ := hH
  have hpa := isP_a hx
  obtain ⟨p0, -⟩ := shP hpa
  refine gSp_of (by decide +kernel) (Nat.le_of_ble_eq_true rfl) ?_
  show gJ RX2 cX2_keep 2 none _ 0 [some (.ref 56), some (.ref 52)] [] _ _
  refine gj_aload_n (pc' := 1) dX2_keep_0 rfl rfl ?_
  refine gf_X2_13 (pc' := 4) dX2_keep_1 rfl (by first | rfl | assumption) rfl ?_
  refine gj_aload_n (pc' := 5) dX2_keep_4 rfl rfl ?_
  refine gf_X2_28 (pc' := 8) dX2_keep_5 rfl (by first | rfl | assumption) rfl ?_
  rw [e3]
  refine gj_aald (pc' := 9) (j := x) (by first | rfl | assumption) (by omega) (by omega) (by decide) dX2_keep_8 rfl ?_
  refine gj_aload_n (pc' := 10) dX2_keep_9 rfl rfl ?_
  refine gc_X2_31 (pc' := 13) dX2_keep_10 rfl (s_copy hpa (Or.inl rfl) (by omega)) rfl (by first | rfl | assumption) (by decide) rfl (Nat.le_of_ble_eq_true rfl) (fun v9 h9 q9 => ?_)
  obtain ⟨rfl, q9⟩ := q9
  obtain ⟨c0, c1, -⟩ := id q9
  have g := c1 56 (by omega)
  show gJ _ _ _ _ _ _ _ [] _ _
  refine gj_aload_n (pc' := 14) dX2_keep_13 rfl rfl ?_
  refine gj_aload_n (pc' := 15) dX2_keep_14 rfl rfl ?_
  refine gf_X2_28 (pc' := 18) dX2_keep_15 rfl (by first | rfl | assumption) rfl ?_
  rw [g, e3]
  refine gj_iconst (pc' := 19) dX2_keep_18 rfl ?_
  refine gj_iadd (pc' := 20) dX2_keep_19 rfl ?_
  refine gj_bipush (pc' := 22) dX2_keep_20 rfl (by decide) ?_
  refine gj_irem (pc' := 23) dX2_keep_22 rfl (by omega) (by omega) ?_
  refine gp_X2_28 (pc' := 26) dX2_keep_23 rfl (by first | rfl | assumption) rfl ?_
  refine gj_aload_n (pc' := 27) dX2_keep_26 rfl rfl ?_
  refine gj_aload_n (pc' := 28) dX2_keep_27 rfl rfl ?_
  refine gf_X2_21 (pc' := 31) dX2_keep_28 rfl (by first | rfl | assumption) rfl ?_
  rw [gui_s, up1_n (by decide), g, e2]
  refine gj_iconst (pc' := 32) dX2_keep_31 rfl ?_
  refine gj_iadd (pc' := 33) dX2_keep_32 rfl ?_
  refine gj_bipush (pc' := 35) dX2_keep_33 rfl (by decide) ?_
  refine gj_mmin (pc' := 38) dX2_keep_35 rfl wm_X2_35 (by decide) (by omega) (by omega) (Nat.le_of_ble_eq_true rfl) ?_
  refine gp_X2_21 (pc' := 41) dX2_keep_38 rfl (by first | rfl | assumption) rfl ?_
  refine gj_vret rfl dX2_keep_41 ?_
  refine ⟨rfl, c0, fun o ho => ?_, (x + 1) % 16, by omega, by unfold uPn; split <;> omega, hm, ?_, ?_, ?_, fun k hk => ?_, fun i hi => ?_⟩
  · exact (gui_n (by omega)).trans ((gui_n (by omega)).trans (c1 o (by omega)))
  · rw [gui_s, up1_s]; unfold uPn; split <;> omega
  · rw [gui_s, up1_n (by decide), gui_s, up1_s]; omega
  · rw [gui_s, up1_n (by decide), gui_s, up1_n (by decide), g, e4]
  · have hs : ∀ a, 56 < a → (gui (gui h9 56 3 (((x : Int) + 1) % 16)) 56 2 (min ((n : Int) + 1) 16)).1 a = h9.1 a := fun a ha => (gui_n (by omega)).trans (gui_n (by omega))
    have ho : ∀ y V, y < 16 → y ≠ x → PresAt h (59 + 4 * y) T V → PresAt (gui (gui h9 56 3 (((x : Int) + 1) % 16)) 56 2 (min ((n : Int) + 1) 16)) (59 + 4 * y) T V := fun y V hy hne a => (a.same (fun o o1 o2 => c1 o (by omega))).same (fun o o1 o2 => hs o (by omega))
    have hw : PresAt (gui (gui h9 56 3 (((x : Int) + 1) % 16)) 56 2 (min ((n : Int) + 1) 16)) (59 + 4 * x) T S := (q9.at h3 h4 hN).same (fun o o1 o2 => hs o (by omega))
    unfold uPn at hk ⊢
    unfold uP
    by_cases c : n = 16
    · rw [if_pos c] at hk ⊢
      rw [if_pos c]
      by_cases c2 : k = 15
      · rw [if_pos c2, show ((x + 1) % 16 + 16 - 16 + k) % 16 = x by omega]
        exact hw
      · rw [if_neg c2]
        have a := hU (k + 1) (by omega)
        rw [show (x + 16 - n + (k + 1)) % 16 = ((x + 1) % 16 + 16 - 16 + k) % 16 by omega] at a
        exact ho _ _ (by omega) (by omega) a
    · rw [if_neg c] at hk ⊢
      rw [if_neg c]
      by_cases c2 : k = n
      · rw [if_pos c2, show ((x + 1) % 16 + 16 - (n + 1) + k) % 16 = x by omega]
        exact hw
      · rw [if_neg c2]
        have a := hU k (by omega)
        rw [show (x + 16 - n + k) % 16 = ((x + 1) % 16 + 16 - (n + 1) + k) % 16 by omega] at a
        exact ho _ _ (by omega) (by omega) a
  · exact ((hK i hi).same (fun o o1 o2 => c1 o (by omega))).same (fun o o1 o2 => (gui_n (by omega)).trans (gui_n (by omega)))
theorem s_takeBack {h : gH} {T : Nat → Nat} {n m : Nat} {U K : Nat → Nat → Nat} (h3 : T 3 ≤ 6) (h4 : T 4 ≤ 7) (hH : XH h T n U m K) : gSp 4 yX2_takeBack cX2_takeBack 2 (some .boolean) [.ref 56, .ref 52] h (fun v h' => v = some (.int (zI (bI (decide (n ≠ 0))))) ∧ h'.2 = h.2 ∧ (∀ o, o < 52 ∨ 56 < o → h'.1 o = h.1 o) ∧ XH h' T (n - 1) U m K ∧ (n = 0 → h' = h) ∧ (n ≠ 0 → PresAt h' 52 T (U (n - 1)))) := by
  obtain ⟨x, hx, hn, hm, e2, e3, e4, hU, hK⟩ := id hH
  have hx2 : (x + 15) % 16 < 16 := by omega
  have hpa := isP_a hx2
  obtain ⟨p0, -⟩ := shP hpa
  refine gSp_of (by decide +kernel) (Nat.le_of_ble_eq_true rfl) ?_
  show gJ RX2 cX2_takeBack 2 (some .boolean) _ 0 [some (.ref 56), some (.ref 52)] [] _ _
  refine gj_aload_n (pc' := 1) dX2_takeBack_0 rfl rfl ?_
  refine gf_X2_21 (pc' := 4) dX2_takeBack_1 rfl (by first | rfl | assumption) rfl ?_
  rw [e2]
  refine gj_if_ne (pc' := 7) (tgt := 9) dX2_takeBack_4 (by decide) rfl (by omega) (fun c4 => ?_) (fun c4 => ?_)
  · refine gj_aload_n (pc' := 10) dX2_takeBack_9 rfl rfl ?_
    refine gj_dup (pc' := 11) dX2_takeBack_10 rfl rfl ?_
    refine gf_X2_21 (pc' := 14) dX2_takeBack_11 rfl (by first | rfl | assumption) rfl ?_
    rw [e2]
    refine gj_iconst (pc' := 15) dX2_takeBack_14 rfl ?_
    refine gj_isub (pc' := 16) dX2_takeBack_15 rfl ?_
    refine gp_X2_21 (pc' := 19) dX2_takeBack_16 rfl (by first | rfl | assumption) rfl ?_
    refine gj_aload_n (pc' := 20) dX2_takeBack_19 rfl rfl ?_
    refine gj_aload_n (pc' := 21) dX2_takeBack_20 rfl rfl ?_
    refine gf_X2_28 (pc' := 24) dX2_takeBack_21 rfl (by first | rfl | assumption) rfl ?_
    rw [gui_s, up1_n (by decide), e3]
    refine gj_bipush (pc' := 26) dX2_takeBack_24 rfl (by decide) ?_
    refine gj_iadd (pc' := 27) dX2_takeBack_26 rfl ?_
    refine gj_iconst (pc' := 28) dX2_takeBack_27 rfl ?_
    refine gj_isub (pc' := 29) dX2_takeBack_28 rfl ?_
    refine gj_bipush (pc' := 31) dX2_takeBack_29 rfl (by decide) ?_
    refine gj_irem (pc' := 32) dX2_takeBack_31 rfl (by omega) (by omega) ?_
    refine gp_X2_28 (pc' := 35) dX2_takeBack_32 rfl (by first | rfl | assumption) rfl ?_
    refine gj_aload_n (pc' := 36) dX2_takeBack_35 rfl rfl ?_
    refine gj_aload_n (pc' := 37) dX2_takeBack_36 rfl rfl ?_
    refine gf_X2_13 (pc' := 40) dX2_takeBack_37 rfl (by first | rfl | assumption) rfl ?_
    refine gj_aload_n (pc' := 41) dX2_takeBack_40 rfl rfl ?_
    refine gf_X2_28 (pc' := 44) dX2_takeBack_41 rfl (by first | rfl | assumption) rfl ?_
    rw [gui_s, up1_s]
    refine gj_aald (pc' := 45) (j := (x + 15) % 16) (by first | rfl | assumption) (by omega) (by omega) (by decide) dX2_takeBack_44 rfl ?_
    refine gc_X2_31 (pc' := 48) dX2_takeBack_45 rfl (s_copy (p := 52) (q := 59 + 4 * ((x + 15) % 16)) (Or.inl rfl) hpa (by omega)) rfl (by first | rfl | assumption) (by decide) rfl (Nat.le_of_ble_eq_true rfl) (fun v9 h9 q9 => ?_)
    obtain ⟨rfl, q9⟩ := q9
    obtain ⟨c0, c1, -⟩ := id q9
    have g := c1 56 (by omega)
    show gJ _ _ _ _ _ _ _ [] _ _
    refine gj_iconst (pc' := 49) dX2_takeBack_48 rfl ?_
    refine gj_zret rfl (by first | rfl | exact gnZ _ | assumption) dX2_takeBack_49 ?_
    have hn0 : n ≠ 0 := by omega
    have hs : ∀ a, a ≠ 56 → (gui (gui h 56 2 ((n : Int) - 1)) 56 3 (((x : Int) + 16 - 1) % 16)).1 a = h.1 a := fun a ha => (gui_n (by omega)).trans (gui_n (by omega))
    refine ⟨by rw [decide_eq_true hn0]; rfl, c0, fun o ho => ?_, ⟨(x + 15) % 16, hx2, by omega, hm, ?_, ?_, ?_, fun k hk => ?_, fun i hi => ?_⟩, fun q => absurd q hn0, fun _ => ?_⟩
    · exact (c1 o (by omega)).trans (hs o (by omega))
    · rw [g, gui_s, up1_n (by decide), gui_s, up1_s]; omega
    · rw [g, gui_s, up1_s]; omega
    · rw [g, gui_s, up1_n (by decide), gui_s, up1_n (by decide), e4]
    · rw [show ((x + 15) % 16 + 16 - (n - 1) + k) % 16 = (x + 16 - n + k) % 16 by omega]
      exact ((hU k (by omega)).same (fun o o1 o2 => hs o (by omega))).same (fun o o1 o2 => c1 o (by omega))
    · exact ((hK i hi).same (fun o o1 o2 => hs o (by omega))).same (fun o o1 o2 => c1 o (by omega))
    · refine q9.at h3 h4 ?_
      have a := hU (n - 1) (by omega)
      rw [show (x + 16 - n + (n - 1)) % 16 = (x + 15) % 16 by omega] at a
      exact a.same (fun o o1 o2 => hs o (by omega))
  · refine gj_iconst (pc' := 8) dX2_takeBack_7 rfl ?_
    refine gj_zret rfl (by first | rfl | exact gnZ _ | assumption) dX2_takeBack_8 ?_
    have hn0 : n = 0 := by omega
    subst hn0
    exact ⟨rfl, rfl, fun _ _ => rfl, hH, fun _ => rfl, fun q => absurd rfl q⟩
theorem s_draw {h : gH} {T S : Nat → Nat} {n m : Nat} {U K : Nat → Nat → Nat} (h3 : T 3 ≤ 6) (h4 : T 4 ≤ 7) (hN : PresAt h 52 T S) (hH : XH h T n U m K) : gSp 4 yX2_draw cX2_draw 2 (some .int) [.ref 56, .ref 52] h (fun v h' => v = some (.int (zI (if m = 3 then -1 else (m : Int)))) ∧ h'.2 = h.2 ∧ (∀ o, o < 56 ∨ (56 < o ∧ o < 123) ∨ 135 ≤ o → h'.1 o = h.1 o) ∧ (m = 3 → h' = h) ∧ (m ≠ 3 → XH h' T n U (m + 1) (fun i => if i = m then S else K i))) := by
  obtain ⟨x, hx, hn, hm, e2, e3, e4, hU, hK⟩ := id hH
  by_cases hm3 : m < 3
  · have hpa := isP_d hm3
    obtain ⟨p0, -⟩ := shP hpa
    refine gSp_of (by decide +kernel) (Nat.le_of_ble_eq_true rfl) ?_
    show gJ RX2 cX2_draw 2 (some .int) _ 0 [some (.ref 56), some (.ref 52)] [] _ _
    refine gj_aload_n (pc' := 1) dX2_draw_0 rfl rfl ?_
    refine gf_X2_25 (pc' := 4) dX2_draw_1 rfl (by first | rfl | assumption) rfl ?_
    rw [e4]
    refine gj_iconst (pc' := 5) dX2_draw_4 rfl ?_
    refine gj_icmp_lt (pc' := 8) (tgt := 10) dX2_draw_5 (by decide) rfl (by omega) (fun c5 => ?_) (fun c5 => ?_)
    · refine gj_aload_n (pc' := 11) dX2_draw_10 rfl rfl ?_
      refine gf_X2_17 (pc' := 14) dX2_draw_11 rfl (by first | rfl | assumption) rfl ?_
      refine gj_aload_n (pc' := 15) dX2_draw_14 rfl rfl ?_
      refine gf_X2_25 (pc' := 18) dX2_draw_15 rfl (by first | rfl | assumption) rfl ?_
      rw [e4]
      refine gj_aald (pc' := 19) (j := m) (by first | rfl | assumption) (by omega) (by omega) (by decide) dX2_draw_18 rfl ?_
      refine gj_aload_n (pc' := 20) dX2_draw_19 rfl rfl ?_
      refine gc_X2_31 (pc' := 23) dX2_draw_20 rfl (s_copy (p := 123 + 4 * m) (q := 52) hpa (Or.inl rfl) (by omega)) rfl (by first | rfl | assumption) (by decide) rfl (Nat.le_of_ble_eq_true rfl) (fun v9 h9 q9 => ?_)
      obtain ⟨rfl, q9⟩ := q9
      obtain ⟨c0, c1, -⟩ := id q9
      have g := c1 56 (by omega)
      show gJ _ _ _ _ _ _ _ [] _ _
      refine gj_aload_n (pc' := 24) dX2_draw_23 rfl rfl ?_
      refine gj_dup (pc' := 25) dX2_draw_24 rfl rfl ?_
      refine gf_X2_25 (pc' := 28) dX2_draw_25 rfl (by first | rfl | assumption) rfl ?_
      rw [g, e4]
      refine gj_iconst (pc' := 29) dX2_draw_28 rfl ?_
      refine gj_iadd (pc' := 30) dX2_draw_29 rfl ?_
      refine gp_X2_25 (pc' := 33) dX2_draw_30 rfl (by first | rfl | assumption) rfl ?_
      refine gj_aload_n (pc' := 34) dX2_draw_33 rfl rfl ?_
      refine gf_X2_25 (pc' := 37) dX2_draw_34 rfl (by first | rfl | assumption) rfl ?_
      rw [gui_s, up1_s]
      refine gj_iconst (pc' := 38) dX2_draw_37 rfl ?_
      refine gj_isub (pc' := 39) dX2_draw_38 rfl ?_
      refine gj_iret rfl dX2_draw_39 ?_
      have hs : ∀ a, a ≠ 56 → (gui h9 56 4 ((m : Int) + 1)).1 a = h9.1 a := fun a ha => gui_n ha
      refine ⟨by rw [if_neg (by omega), show (m : Int) + 1 - 1 = m by omega], c0, fun o ho => ?_, fun q => by omega, fun _ => ⟨x, hx, hn, by omega, ?_, ?_, ?_, fun k hk => ?_, fun i hi => ?_⟩⟩
      · exact (hs o (by omega)).trans (c1 o (by omega))
      · rw [gui_s, up1_n (by decide), g, e2]
      · rw [gui_s, up1_n (by decide), g, e3]
      · rw [gui_s, up1_s]; omega
      · exact ((hU k hk).same (fun o o1 o2 => c1 o (by omega))).same (fun o o1 o2 => hs o (by omega))
      · show PresAt _ _ _ (if i = m then S else K i)
        by_cases c : i = m
        · rw [if_pos c, c]
          exact (q9.at h3 h4 hN).same (fun o o1 o2 => hs o (by omega))
        · rw [if_neg c]
          exact ((hK i (by omega)).same (fun o o1 o2 => c1 o (by omega))).same (fun o o1 o2 => hs o (by omega))
    · exfalso; omega
  · refine gSp_of (by decide +kernel) (Nat.le_of_ble_eq_true rfl) ?_
    show gJ RX2 cX2_draw 2 (some .int) _ 0 [some (.ref 56), some (.ref 52)] [] _ _
    refine gj_aload_n (pc' := 1) dX2_draw_0 rfl rfl ?_
    refine gf_X2_25 (pc' := 4) dX2_draw_1 rfl (by first | rfl | assumption) rfl ?_
    rw [e4]
    refine gj_iconst (pc' := 5) dX2_draw_4 rfl ?_
    refine gj_icmp_lt (pc' := 8) (tgt := 10) dX2_draw_5 (by decide) rfl (by omega) (fun c5 => ?_) (fun c5 => ?_)
    · exfalso; omega
    · refine gj_iconst (pc' := 9) dX2_draw_8 rfl ?_
      refine gj_iret rfl dX2_draw_9 ?_
      exact ⟨by rw [if_pos (by omega)], rfl, fun _ _ => rfl, fun _ => rfl, fun q => by omega⟩
theorem s_restore {h : gH} {T : Nat → Nat} {n m : Nat} {U K : Nat → Nat → Nat} {a : Int} (h3 : T 3 ≤ 6) (h4 : T 4 ≤ 7) (ha : inB a) (hH : XH h T n U m K) : gSp 4 yX2_restore cX2_restore 3 (some .boolean) [.ref 56, .ref 52, .int (zI a)] h (fun v h' => v = some (.int (zI (bI (decide (0 ≤ a ∧ a < (m : Int)))))) ∧ h'.2 = h.2 ∧ (∀ o, o < 52 ∨ 56 < o → h'.1 o = h.1 o) ∧ (¬ (0 ≤ a ∧ a < (m : Int)) → h' = h) ∧ (0 ≤ a ∧ a < (m : Int) → XH h' T 0 U m K ∧ PresAt h' 52 T (K a.toNat))) := by
  unfold inB at ha
  obtain ⟨x, hx, hn, hm, e2, e3, e4, hU, hK⟩ := id hH
  refine gSp_of (by decide +kernel) (Nat.le_of_ble_eq_true rfl) ?_
  show gJ RX2 cX2_restore 3 (some .boolean) _ 0 [some (.ref 56), some (.ref 52), some (.int (zI a))] [] _ _
  refine gj_iload_n (pc' := 1) dX2_restore_0 rfl rfl ?_
  refine gj_if_lt (pc' := 4) (tgt := 12) dX2_restore_1 (by decide) rfl (by omega) (fun c1 => ?_) (fun c1 => ?_)
  · refine gj_iconst (pc' := 13) dX2_restore_12 rfl ?_
    refine gj_zret rfl (by first | rfl | exact gnZ _ | assumption) dX2_restore_13 ?_
    exact ⟨by rw [decide_eq_false (by omega)]; rfl, rfl, fun _ _ => rfl, fun _ => rfl, fun q => by omega⟩
  · refine gj_iload_n (pc' := 5) dX2_restore_4 rfl rfl ?_
    refine gj_aload_n (pc' := 6) dX2_restore_5 rfl rfl ?_
    refine gf_X2_25 (pc' := 9) dX2_restore_6 rfl (by first | rfl | assumption) rfl ?_
    rw [e4]
    refine gj_icmp_lt (pc' := 12) (tgt := 14) dX2_restore_9 (by decide) rfl (by omega) (fun c9 => ?_) (fun c9 => ?_)
    · obtain ⟨i, rfl⟩ : ∃ i : Nat, a = (i : Int) := ⟨a.toNat, by omega⟩
      have hi3 : i < 3 := by omega
      have hpa := isP_d hi3
      refine gj_aload_n (pc' := 15) dX2_restore_14 rfl rfl ?_
      refine gj_aload_n (pc' := 16) dX2_restore_15 rfl rfl ?_
      refine gf_X2_17 (pc' := 19) dX2_restore_16 rfl (by first | rfl | assumption) rfl ?_
      refine gj_iload_n (pc' := 20) dX2_restore_19 rfl rfl ?_
      refine gj_aald (pc' := 21) (j := i) (by first | rfl | assumption) (by omega) (by omega) (by decide) dX2_restore_20 rfl ?_
      refine gc_X2_31 (pc' := 24) dX2_restore_21 rfl (s_copy (p := 52) (q := 123 + 4 * i) (Or.inl rfl) hpa (by omega)) rfl (by first | rfl | assumption) (by decide) rfl (Nat.le_of_ble_eq_true rfl) (fun v9 h9 q9 => ?_)
      obtain ⟨rfl, q9⟩ := q9
      obtain ⟨c0, c1, -⟩ := id q9
      have g := c1 56 (by omega)
      show gJ _ _ _ _ _ _ _ [] _ _
      refine gj_aload_n (pc' := 25) dX2_restore_24 rfl rfl ?_
      refine gj_iconst (pc' := 26) dX2_restore_25 rfl ?_
      refine gp_X2_21 (pc' := 29) dX2_restore_26 rfl (by first | rfl | assumption) rfl ?_
      refine gj_iconst (pc' := 30) dX2_restore_29 rfl ?_
      refine gj_zret rfl (by first | rfl | exact gnZ _ | assumption) dX2_restore_30 ?_
      refine ⟨by rw [decide_eq_true (by omega)]; rfl, c0, fun o ho => (gui_n (by omega)).trans (c1 o (by omega)), fun q => by omega, fun _ => ⟨⟨x, hx, by omega, hm, ?_, ?_, ?_, fun k hk => by omega, fun j hj => ?_⟩, ?_⟩⟩
      · rw [gui_s, up1_s]; rfl
      · rw [gui_s, up1_n (by decide), g, e3]
      · rw [gui_s, up1_n (by decide), g, e4]
      · exact ((hK j hj).same (fun o o1 o2 => c1 o (by omega))).same (fun o o1 o2 => gui_n (by omega))
      · rw [Int.toNat_natCast]
        exact (q9.at h3 h4 (hK i (by omega))).same (fun o o1 o2 => gui_n (by omega))
    · refine gj_iconst (pc' := 13) dX2_restore_12 rfl ?_
      refine gj_zret rfl (by first | rfl | exact gnZ _ | assumption) dX2_restore_13 ?_
      exact ⟨by rw [decide_eq_false (by omega)]; rfl, rfl, fun _ _ => rfl, fun _ => rfl, fun q => by omega⟩
theorem s_forget {h : gH} {T : Nat → Nat} {n m : Nat} {U K : Nat → Nat → Nat} (hH : XH h T n U m K) : gSp 1 yX2_forget cX2_forget 1 none [.ref 56] h (fun v h' => v = none ∧ h'.2 = h.2 ∧ (∀ o, o ≠ 56 → h'.1 o = h.1 o) ∧ ∀ T', XH h' T' 0 U 0 K) := by
  obtain ⟨x, hx, hn, hm, e2, e3, e4, hU, hK⟩ := hH
  refine gSp_of (by decide +kernel) (Nat.le_of_ble_eq_true rfl) ?_
  show gJ RX2 cX2_forget 1 none _ 0 [some (.ref 56)] [] _ _
  refine gj_aload_n (pc' := 1) dX2_forget_0 rfl rfl ?_
  refine gj_iconst (pc' := 2) dX2_forget_1 rfl ?_
  refine gp_X2_21 (pc' := 5) dX2_forget_2 rfl (by first | rfl | assumption) rfl ?_
  refine gj_aload_n (pc' := 6) dX2_forget_5 rfl rfl ?_
  refine gj_iconst (pc' := 7) dX2_forget_6 rfl ?_
  refine gp_X2_25 (pc' := 10) dX2_forget_7 rfl (by first | rfl | assumption) rfl ?_
  refine gj_vret rfl dX2_forget_10 ?_
  refine ⟨rfl, rfl, fun o ho => (gui_n ho).trans (gui_n ho), fun T' => ⟨x, hx, by omega, by omega, ?_, ?_, ?_, fun k hk => by omega, fun i hi => by omega⟩⟩
  · rw [gui_s, up1_n (by decide), gui_s, up1_s]; rfl
  · rw [gui_s, up1_n (by decide), gui_s, up1_n (by decide), e3]
  · rw [gui_s, up1_s]; rfl
