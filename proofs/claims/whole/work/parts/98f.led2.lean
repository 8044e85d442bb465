/-! the law's led: it answers 0 and what the class's led answers, or catches and answers 1 -/
def hhL : List (Nat × Nat × Nat × Nat) := [(0, 9, 12, 13)]
def ldQ (T S : Nat → Nat) (a : Int) (h : gH) : Option Value → gH → Prop := fun v h' => (ldF T S a ≠ -2 ∧ v = some (.int (zI 0)) ∧ h' = gul h 156 0 (ldF T S a)) ∨ (ldF T S a = -2 ∧ v = some (.int (zI 1)) ∧ h' = h)
def ldP2 (Q : Option Value → gH → Prop) : eP := fun below args s D aC ad => vx_MQ below (gQm D aC ad (gA ad s.heap.size) Q) (fun _ _ _ => False) args s 1 6 (gA ad s.heap.size)
theorem ge_iret1 {d pc : Nat} {tb : List ExceptionTableEntry} {ls : List (Option Value)} {h : gH} {Q : Option Value → gH → Prop} {x : Int32} (hd : decode cL_led pc = .ok (.ireturn, 1)) (hq : Q (some (.int x)) h) : gE RL cL_led 4 (some .int) d tb pc ls [.int x] h (ldP2 Q) := by
  intro p l e s m args below meth c D aC ad C0 H locs lsA hP hS hL
  obtain ⟨hx, hb, hml, hr, hown, hts, hlocks, hK, hinj, hX⟩ := id C0.1
  refine W.widen (Nat.zero_le 1) (Nat.zero_le 6) (vx_ret ?_)
  exact W.iret (v := x) hx hb hr (fun t ht hW => ⟨⟨some (.int x), h, rfl, hq, by rw [ht]; exact hP⟩, hS.F ht⟩) hS.2.2 hd hlocks
theorem fstN_bd (p : Nat → Bool) : ∀ N : Nat, -2 ≤ fstN p N ∧ fstN p N < (N : Int)
  | 0 => by
    have e : fstN p 0 = -2 := rfl
    rw [e]
    decide
  | N + 1 => by
    have ih := fstN_bd p N
    rw [fstN_s]
    split <;> omega
theorem lo_X10_led : gOkM yX10_led 1 := ⟨by decide +kernel, by decide +kernel, by decide +kernel⟩
theorem ge_ledX {h : gH} {t : Nat} {T S : Nat → Nat} {a : Int} (hQ : XQ h t T S) (ha : inB a) (hne : ldF T S a = -2) : gE RL cL_led 4 (some .int) 14 (tableOf hhL) 4 [some (.ref 0), some (.int (zI a)), some (.ref 156), none] [.int (zI a), .ref 0, .int (zI 0), .ref 156] h (ldP2 (ldQ T S a h)) := by
  intro p l e s m args below meth c D aC ad C H locs lsA hP hS hL
  obtain ⟨hx, hb, hml, hr, hown, hts, hlocks, hK, hinj, hX⟩ := id C.1
  obtain ⟨-, hl, hZ, htb⟩ := id C
  obtain ⟨ks, hs⟩ : ∃ ks, shp 0 = .inl (9, ks) := ⟨_, rfl⟩
  have hq : vwCl[9]? = some (RX10, TX10, 10) := rfl
  have he : (gw aC ad h)[0]? = some (ad 0, .inr (9, (gfs (h.1 0) (h.2.1 0) h.2.2 0 ks).map (gv ad))) := by rw [gw_at (shp_ltL hs), gcell_L hs]
  have hA := gA_mono (ad := ad) hS.1
  have run := vx_runV (p := p) (l := l) (e := e) (R := rmE 14) (below := below) (meth := meth) (C := RX10) (As := [.int (zI a)]) (rest := [.int (zI 0), .ref (ad 156)]) (b := ad 0) (H := H) (locs := locs) (cells := 0) (slots := 0) (mc := 1) (ms := 6) (n := 1) (g := F0 m 4 lsA [.int (zI a), .ref (ad 0), .int (zI 0), .ref (ad 156)]) ⟨hx, hb, hml, hown, hts⟩ (x_ledX hQ ha hne l D aC ad H.size hinj hl)
    ⟨⟨rfl, rfl, by decide, by decide, fun w hw a' U hW => gtb_warm hts hW w (gtb_ws (gtb_at 1202 (by decide +kernel) rfl) w hw) a', List.mem_cons_self, hts _ (gtb_at 1202 (by decide +kernel) rfl), hts _ (gtb_at 1 (by decide +kernel) rfl), ⟨lo_X10_led.1, lo_X10_led.2.1⟩, gOkM_len lo_X10_led, hts _ (gtb_at 1199 (by decide +kernel) rfl)⟩, hts _ (gtb_at 1200 (by decide +kernel) rfl), hts _ (gtb_at 1201 (by decide +kernel) rfl)⟩
    ⟨ePre_blind, va_recv hK hP hq he, fun U hU hW => ⟨rfl, gPre_of C.1 hP hS U hU hW, by rw [hU]; exact ((hZ.moved hW.alike).kept hS.2.1).narrow hA⟩⟩ rfl rfl hL.size rfl (lv_room (by simp [Value.category])) dL_led_4 ⟨by decide, by decide⟩
  intro Tt hT X
  rcases run Tt hT X with ⟨v, st₀, t, T', L, h0, X', hL2, e1, e2, hF, st⟩ | ⟨q, st₀, t, T', L, E, ce, h0, X', hL2, e1, e2, ⟨rfl, hPt, hz, hk⟩, hce, hcv, hcl, st⟩
  · exact hF.elim
  · rw [h0] at hz hk
    have hS' : va_S (gA ad s.heap.size) s.heap T'.heap (locs ++ L) := ⟨Nat.le_trans hS.1 (by rw [e1]; exact hz), fun q h1 h2 => by rw [e1, hk q (Nat.lt_of_lt_of_le h1 hS.1) (fun z => h2 (hA q z))]; exact hS.2.1 q h1 h2, fun q hq => by
      rcases List.mem_append.mp hq with g | g
      · exact hS.2.2 q g
      · exact hA _ (hL2 q g)⟩
    have W2 : vx_W p l e (rmE 14) s m args below meth c T'.heap (locs ++ L) (0 + 1) (0 + 6) (ldP2 (ldQ T S a h) below args s D aC ad) (F0 m 4 lsA [.int (zI 0), .ref (ad 156)]) q := by
      refine vx_catch (own := RL) (name := "java/util/NoSuchElementException") hown [] ⟨0, 9, 12, 13⟩ [] (by rw [htb]; rfl) (fun z hz => nomatch hz) (by decide) (by decide) (hts _ (gtb_at 1198 (by decide +kernel) rfl)) (va_Nw.use rfl hZ.2.2.1) (by rw [e1]; exact hce) hcv hcl ?_
      obtain ⟨lv, h1, h2⟩ := hL
      refine lv_astore_n hx hb dL_led_12 rfl h1 (by decide) rfl (fun lsB hB => ?_)
      refine lv_iconst (v := zI 1) hx hb dL_led_13 rfl ?_
      exact vx_ret (W.iret (v := zI 1) hx hb hr (fun t ht hW => ⟨⟨some (.int (zI 1)), h, rfl, Or.inr ⟨hne, rfl, rfl⟩, by rw [ht, e1]; exact hPt⟩, hS'.F ht⟩) hS'.2.2 dL_led_14 hlocks)
    obtain ⟨tt, a1, b1⟩ := W2 T' rfl X'
    exact ⟨tt, st.trans a1, b1⟩
theorem l_led {h : gH} {t : Nat} {T S : Nat → Nat} {a : Int} (hQ : XQ h t T S) (ha : inB a) (l : Launch) (D : va_G) (aC : Nat → ClassId) (ad : Nat → Nat) (sz : Nat) (hinj : gInj ad) (hl9 : l.stackTraces = false) : vx_Met l yL_led (Cond.codeWith yL_led cL_led 4 (some .int) hhL :: gtb) (rmE 14) (va_Pc [.ref (ad 0), .int (zI a), .ref (ad 156)] (ePre D aC ad sz h)) (gQm D aC ad (gA ad sz) (ldQ T S a h)) (fun _ _ _ => False) 1 6 (gA ad sz) := by
  refine vx_ofWH (cc := cL_led) (maxL := 4) (ret := some .int) (hh := hhL) (by decide +kernel) rfl ?_
  intro p e s m argsA below meth c s₁ B hml hv
  obtain ⟨rfl, ⟨hsz, hP, hK, hX⟩, hZ⟩ := hv
  have hall : ∀ w ∈ Cond.codeWith yL_led cL_led 4 (some .int) hhL :: gtb, w.before (([Value.ref (ad 0), .int (zI a), .ref (ad 156)]).toArray) s = true := atoms_spec (ws := Cond.codeWith yL_led cL_led 4 (some .int) hhL :: gtb) B.pre
  have hts : ∀ w ∈ gtb, w.before (([Value.ref (ad 0), .int (zI a), .ref (ad 156)]).toArray) s = true := fun w hw => hall w (List.mem_cons_of_mem _ hw)
  have hown : s.vm.findClass RL = some m.cls := findClass_of_methodNamed B.named
  have htb := vx_table (x := yL_led) B (hall _ List.mem_cons_self)
  subst hsz
  have hl := lv_entry ([Value.ref (ad 0), .int (zI a), .ref (ad 156)]) (n := 4) (by show 3 ≤ 4; decide)
  rw [lg_entry_eq]
  have w : gE RL cL_led 4 (some .int) 14 (tableOf hhL) 0 [some (.ref 0), some (.int (zI a)), some (.ref 156), none] [] h (ldP2 (ldQ T S a h)) := by
    refine ge_aload_n (pc' := 1) dL_led_0 rfl rfl ?_
    refine ge_iconst (pc' := 2) dL_led_1 rfl ?_
    refine ge_aload_n (pc' := 3) dL_led_2 rfl rfl ?_
    refine ge_iload_n (pc' := 4) dL_led_3 rfl rfl ?_
    by_cases hne : ldF T S a = -2
    · exact ge_ledX hQ ha hne
    · refine ge_callV (pc' := 7) (C := RX10) (ci := 9) (rest := [.int (zI 0), .ref 156]) (x_led hQ ha hne) lo_X10_led (gtb_at 1199 (by decide +kernel) rfl) (gtb_at 1200 (by decide +kernel) rfl) (gtb_at 1201 (by decide +kernel) rfl) (gtb_at 1 (by decide +kernel) rfl) (gtb_at 1202 (by decide +kernel) rfl) (by decide) rfl (by rfl) (by decide) rfl (by decide) dL_led_4 rfl (fun v h' q9 => ?_)
      obtain ⟨rfl, rfl⟩ := q9
      show gE _ _ _ _ _ _ _ _ [.int (zI (ldF T S a)), .int (zI 0), .ref 156] _ _
      have hbd := fstN_bd (ldP S a) (T 4)
      have h4 := hQ.2.2.2.1.2.1
      have hbd2 : -2 ≤ ldF T S a ∧ ldF T S a < 7 := by unfold ldF; omega
      refine ge_i2l (pc' := 8) dL_led_7 rfl (by omega) ?_
      refine ge_last (pc' := 9) (j := 0) (by rfl) rfl (by decide) (by decide) dL_led_8 rfl ?_
      refine ge_goto (pc' := 15) dL_led_9 (by decide) ?_
      refine ge_iconst (pc' := 16) dL_led_15 rfl ?_
      exact ge_iret1 dL_led_16 (Or.inl ⟨hne, rfl, rfl⟩)
  refine w p l e s m _ below meth c D aC ad ⟨⟨B.exec, B.bytes, hml, B.returns, hown, hts, B.notSynchronized, hK, hinj, hX⟩, hl9, hZ, htb⟩ s.heap [] _ hP va_S.rf ⟨_, hl, fun i v hi => ?_⟩
  match i with
  | 0 => cases hi; exact List.mem_cons_self
  | 1 => cases hi; exact List.mem_cons_of_mem _ List.mem_cons_self
  | 2 => cases hi; exact List.mem_cons_of_mem _ (List.mem_cons_of_mem _ List.mem_cons_self)
  | 3 => cases hi
  | i + 4 => cases hi
theorem m_thrown {h : gH} : gSp 12 yX11_thrown cX11_thrown 1 (some .int) [.ref 142] h (gR (.int (zI (h.1 142 0))) h) := by
  refine gSp_of (by decide +kernel) (Nat.le_of_ble_eq_true rfl) ?_
  show gJ RX11 cX11_thrown 1 (some .int) _ 0 [some (.ref 142)] [] _ _
  refine gj_aload_n (pc' := 1) dX11_thrown_0 rfl rfl ?_
  refine gf_X11_53 (pc' := 4) dX11_thrown_1 rfl (by first | rfl | assumption) rfl ?_
  refine gj_iret rfl dX11_thrown_4 ?_
  exact ⟨rfl, rfl⟩
