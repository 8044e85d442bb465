/-! two houses; hawks; sets: both faces -/
theorem gJ_fH0 {own : String} {cc : ByteArray} {nL : Nat} {rt : Option FieldType} {d pc : Nat} {st : List Value} {Q : Option Value → gH → Prop} {L : Nat → List (Option Value)} {I : Nat → gH → Prop} (N : Nat) (step : ∀ (b : Nat) (h : gH), b ≤ N → I b  h → (∀ (h' : gH), b < N → I (b + 1)  h' → gJ own cc nL rt d pc (L (b + 1) ) st h' Q) → gJ own cc nL rt d pc (L b ) st h Q) (b0 : Nat) (h0 : b0 ≤ N) (h : gH) (hi : I b0  h) : gJ own cc nL rt d pc (L b0 ) st h Q := by
  have key : ∀ (k b : Nat) (h : gH), N - b = k → b ≤ N → I b  h → gJ own cc nL rt d pc (L b ) st h Q := by
    intro k
    induction k with
    | zero => intro b  h e hb hi; exact step b  h hb hi (fun  h' q _ => by omega)
    | succ k ih => intro b  h e hb hi; exact step b  h hb hi (fun  h' q hi2 => ih (b + 1)  h' (by omega) (by omega) hi2)
  exact key _ b0  h rfl h0 hi
theorem gJ_fH1 {own : String} {cc : ByteArray} {nL : Nat} {rt : Option FieldType} {d pc : Nat} {st : List Value} {Q : Option Value → gH → Prop} {L : Nat → Int → List (Option Value)} {I : Nat → Int → gH → Prop} (N : Nat) (step : ∀ (b : Nat) (x : Int) (h : gH), b ≤ N → I b x h → (∀ (x' : Int) (h' : gH), b < N → I (b + 1) x' h' → gJ own cc nL rt d pc (L (b + 1) x') st h' Q) → gJ own cc nL rt d pc (L b x) st h Q) (b0 : Nat) (h0 : b0 ≤ N) (x : Int) (h : gH) (hi : I b0 x h) : gJ own cc nL rt d pc (L b0 x) st h Q := by
  have key : ∀ (k b : Nat) (x : Int) (h : gH), N - b = k → b ≤ N → I b x h → gJ own cc nL rt d pc (L b x) st h Q := by
    intro k
    induction k with
    | zero => intro b x h e hb hi; exact step b x h hb hi (fun x' h' q _ => by omega)
    | succ k ih => intro b x h e hb hi; exact step b x h hb hi (fun x' h' q hi2 => ih (b + 1) x' h' (by omega) (by omega) hi2)
  exact key _ b0 x h rfl h0 hi
theorem gJ_fH2 {own : String} {cc : ByteArray} {nL : Nat} {rt : Option FieldType} {d pc : Nat} {st : List Value} {Q : Option Value → gH → Prop} {L : Nat → Int → Int → List (Option Value)} {I : Nat → Int → Int → gH → Prop} (N : Nat) (step : ∀ (b : Nat) (x y : Int) (h : gH), b ≤ N → I b x y h → (∀ (x' y' : Int) (h' : gH), b < N → I (b + 1) x' y' h' → gJ own cc nL rt d pc (L (b + 1) x' y') st h' Q) → gJ own cc nL rt d pc (L b x y) st h Q) (b0 : Nat) (h0 : b0 ≤ N) (x y : Int) (h : gH) (hi : I b0 x y h) : gJ own cc nL rt d pc (L b0 x y) st h Q := by
  have key : ∀ (k b : Nat) (x y : Int) (h : gH), N - b = k → b ≤ N → I b x y h → gJ own cc nL rt d pc (L b x y) st h Q := by
    intro k
    induction k with
    | zero => intro b x y h e hb hi; exact step b x y h hb hi (fun x' y' h' q _ => by omega)
    | succ k ih => intro b x y h e hb hi; exact step b x y h hb hi (fun x' y' h' q hi2 => ih (b + 1) x' y' h' (by omega) (by omega) hi2)
  exact key _ b0 x y h rfl h0 hi
theorem gJ_fH3 {own : String} {cc : ByteArray} {nL : Nat} {rt : Option FieldType} {d pc : Nat} {st : List Value} {Q : Option Value → gH → Prop} {L : Nat → Int → Int → Int → List (Option Value)} {I : Nat → Int → Int → Int → gH → Prop} (N : Nat) (step : ∀ (b : Nat) (x y z : Int) (h : gH), b ≤ N → I b x y z h → (∀ (x' y' z' : Int) (h' : gH), b < N → I (b + 1) x' y' z' h' → gJ own cc nL rt d pc (L (b + 1) x' y' z') st h' Q) → gJ own cc nL rt d pc (L b x y z) st h Q) (b0 : Nat) (h0 : b0 ≤ N) (x y z : Int) (h : gH) (hi : I b0 x y z h) : gJ own cc nL rt d pc (L b0 x y z) st h Q := by
  have key : ∀ (k b : Nat) (x y z : Int) (h : gH), N - b = k → b ≤ N → I b x y z h → gJ own cc nL rt d pc (L b x y z) st h Q := by
    intro k
    induction k with
    | zero => intro b x y z h e hb hi; exact step b x y z h hb hi (fun x' y' z' h' q _ => by omega)
    | succ k ih => intro b x y z h e hb hi; exact step b x y z h hb hi (fun x' y' z' h' q hi2 => ih (b + 1) x' y' z' h' (by omega) (by omega) hi2)
  exact key _ b0 x y z h rfl h0 hi
theorem fstN_hit {p : Nat → Bool} {k N : Nat} (h : fstN p k = -2) (hp : p k = true) (hN : k < N) : fstN p N = (k : Int) := fstN_at hp (fun j hj => by
  cases q : p j with
  | false => rfl
  | true => exact absurd h (fstN_ne q k hj)) hN
def gn (w : Int) (a b : Bool) : Int := if a then (if b then 1 else w) else (if b then 0 else 3)
theorem gn_in {w : Int} (hw : 0 ≤ w ∧ w ≤ 9) (a b : Bool) : 0 ≤ gn w a b ∧ gn w a b ≤ 9 := by
  unfold gn
  cases a <;> cases b <;> simp <;> omega
def isR (w : Int) (a b : Bool) : Bool := decide (gn w (!a) b ≤ gn w a b) && decide (gn w (!b) a ≤ gn w b a)
def rsP (w : Int) (k : Nat) : Bool := isR w (decide (1 < k)) (decide (k % 2 = 1))
def rsV (i : Int) : Int := if i = -2 then -2 else 10 * (i / 2) + i % 2
def aSends (T : Nat → Nat) (w : Int) (a b o : Bool) : Int × Int := aToN T w (fun n => if o then gn n b a else gn n a b) 9
theorem s_gain {h : gH} {w : Int} {a b : Bool} : gSp 1 yX10_gain cX10_gain 3 (some .int) [.int (zI w), .int (zI (bI a)), .int (zI (bI b))] h (gR (.int (zI (gn w a b))) h) := by
  refine gSp_of (by decide +kernel) (Nat.le_of_ble_eq_true rfl) ?_
  show gJ RX10 cX10_gain 3 (some .int) _ 0 [some (.int (zI w)), some (.int (zI (bI a))), some (.int (zI (bI b)))] [] _ _
  refine gj_iload_n (pc' := 1) dX10_gain_0 rfl rfl ?_
  first | refine gj_ifB_eq (pc' := 4) (tgt := 14) dX10_gain_1 (by decide) rfl (fun c1 => ?_) (fun c1 => ?_) | refine gj_if_eq (pc' := 4) (tgt := 14) dX10_gain_1 (by decide) rfl (by omega) (fun c1 => ?_) (fun c1 => ?_)
  · refine gj_iload_n (pc' := 15) dX10_gain_14 rfl rfl ?_
    first | refine gj_ifB_eq (pc' := 18) (tgt := 22) dX10_gain_15 (by decide) rfl (fun c15 => ?_) (fun c15 => ?_) | refine gj_if_eq (pc' := 18) (tgt := 22) dX10_gain_15 (by decide) rfl (by omega) (fun c15 => ?_) (fun c15 => ?_)
    · refine gj_iconst (pc' := 23) dX10_gain_22 rfl ?_
      refine gj_iret rfl dX10_gain_23 ?_
      exact gR_i (by subst_vars; rfl)
    · refine gj_iconst (pc' := 19) dX10_gain_18 rfl ?_
      refine gj_goto (pc' := 23) dX10_gain_19 (by decide) ?_
      refine gj_iret rfl dX10_gain_23 ?_
      exact gR_i (by subst_vars; rfl)
  · refine gj_iload_n (pc' := 5) dX10_gain_4 rfl rfl ?_
    first | refine gj_ifB_eq (pc' := 8) (tgt := 12) dX10_gain_5 (by decide) rfl (fun c5 => ?_) (fun c5 => ?_) | refine gj_if_eq (pc' := 8) (tgt := 12) dX10_gain_5 (by decide) rfl (by omega) (fun c5 => ?_) (fun c5 => ?_)
    · refine gj_iload_n (pc' := 13) dX10_gain_12 rfl rfl ?_
      refine gj_iret rfl dX10_gain_13 ?_
      exact gR_i (by subst_vars; rfl)
    · refine gj_iconst (pc' := 9) dX10_gain_8 rfl ?_
      refine gj_goto (pc' := 13) dX10_gain_9 (by decide) ?_
      refine gj_iret rfl dX10_gain_13 ?_
      exact gR_i (by subst_vars; rfl)
theorem m_hasBy {h : gH} {w : Int} {a b : Bool} : gSp 1 yX11_hasBy cX11_hasBy 3 (some .int) [.int (zI w), .int (zI (bI a)), .int (zI (bI b))] h (gR (.int (zI (gn w a b))) h) := by
  refine gSp_of (by decide +kernel) (Nat.le_of_ble_eq_true rfl) ?_
  show gJ RX11 cX11_hasBy 3 (some .int) _ 0 [some (.int (zI w)), some (.int (zI (bI a))), some (.int (zI (bI b)))] [] _ _
  refine gj_iload_n (pc' := 1) dX11_hasBy_0 rfl rfl ?_
  first | refine gj_ifB_eq (pc' := 4) (tgt := 16) dX11_hasBy_1 (by decide) rfl (fun c1 => ?_) (fun c1 => ?_) | refine gj_if_eq (pc' := 4) (tgt := 16) dX11_hasBy_1 (by decide) rfl (by omega) (fun c1 => ?_) (fun c1 => ?_)
  · refine gj_iload_n (pc' := 17) dX11_hasBy_16 rfl rfl ?_
    first | refine gj_ifB_eq (pc' := 20) (tgt := 24) dX11_hasBy_17 (by decide) rfl (fun c17 => ?_) (fun c17 => ?_) | refine gj_if_eq (pc' := 20) (tgt := 24) dX11_hasBy_17 (by decide) rfl (by omega) (fun c17 => ?_) (fun c17 => ?_)
    · refine gj_iconst (pc' := 25) dX11_hasBy_24 rfl ?_
      refine gj_iret rfl dX11_hasBy_25 ?_
      exact gR_i (by subst_vars; rfl)
    · refine gj_iconst (pc' := 21) dX11_hasBy_20 rfl ?_
      refine gj_goto (pc' := 25) dX11_hasBy_21 (by decide) ?_
      refine gj_iret rfl dX11_hasBy_25 ?_
      exact gR_i (by subst_vars; rfl)
  · refine gj_iload_n (pc' := 5) dX11_hasBy_4 rfl rfl ?_
    first | refine gj_ifB_eq (pc' := 8) (tgt := 12) dX11_hasBy_5 (by decide) rfl (fun c5 => ?_) (fun c5 => ?_) | refine gj_if_eq (pc' := 8) (tgt := 12) dX11_hasBy_5 (by decide) rfl (by omega) (fun c5 => ?_) (fun c5 => ?_)
    · refine gj_iload_n (pc' := 13) dX11_hasBy_12 rfl rfl ?_
      refine gj_goto (pc' := 25) dX11_hasBy_13 (by decide) ?_
      refine gj_iret rfl dX11_hasBy_25 ?_
      exact gR_i (by subst_vars; rfl)
    · refine gj_iconst (pc' := 9) dX11_hasBy_8 rfl ?_
      refine gj_goto (pc' := 25) dX11_hasBy_9 (by decide) ?_
      refine gj_iret rfl dX11_hasBy_25 ?_
      exact gR_i (by subst_vars; rfl)
theorem k4_2 : ∀ k, k < 4 → (zI (k : Nat) &&& zI 2).toInt = (if 1 < k then 2 else 0) := by decide +kernel
theorem k4_1 : ∀ k, k < 4 → (zI (k : Nat) &&& zI 1).toInt = (if k % 2 = 1 then 1 else 0) := by decide +kernel
theorem s_oneSends {h : gH} {k : Nat} (hk : k < 4) : gSp 1 yX10_oneSends cX10_oneSends 1 (some .boolean) [.int (zI (k : Int))] h (gR (.int (zI (bI (decide (1 < k))))) h) := by
  refine gSp_of (by decide +kernel) (Nat.le_of_ble_eq_true rfl) ?_
  show gJ RX10 cX10_oneSends 1 (some .boolean) _ 0 [some (.int (zI (k : Int)))] [] _ _
  refine gj_iload_n (pc' := 1) dX10_oneSends_0 rfl rfl ?_
  refine gj_iconst (pc' := 2) dX10_oneSends_1 rfl ?_
  refine gj_iand (pc' := 3) dX10_oneSends_2 rfl ?_
  rw [k4_2 k hk]
  refine gj_if_eq (pc' := 6) (tgt := 10) dX10_oneSends_3 (by decide) rfl (by split <;> omega) (fun c3 => ?_) (fun c3 => ?_)
  · refine gj_iconst (pc' := 11) dX10_oneSends_10 rfl ?_
    refine gj_zret rfl (by first | rfl | exact gnZ _ | assumption) dX10_oneSends_11 ?_
    first | exact gR_t (by split at c3 <;> simp <;> omega) | exact gR_f (by split at c3 <;> simp <;> omega)
  · refine gj_iconst (pc' := 7) dX10_oneSends_6 rfl ?_
    refine gj_goto (pc' := 11) dX10_oneSends_7 (by decide) ?_
    refine gj_zret rfl (by first | rfl | exact gnZ _ | assumption) dX10_oneSends_11 ?_
    first | exact gR_t (by split at c3 <;> simp <;> omega) | exact gR_f (by split at c3 <;> simp <;> omega)
theorem s_otherSends {h : gH} {k : Nat} (hk : k < 4) : gSp 1 yX10_otherSends cX10_otherSends 1 (some .boolean) [.int (zI (k : Int))] h (gR (.int (zI (bI (decide (k % 2 = 1))))) h) := by
  refine gSp_of (by decide +kernel) (Nat.le_of_ble_eq_true rfl) ?_
  show gJ RX10 cX10_otherSends 1 (some .boolean) _ 0 [some (.int (zI (k : Int)))] [] _ _
  refine gj_iload_n (pc' := 1) dX10_otherSends_0 rfl rfl ?_
  refine gj_iconst (pc' := 2) dX10_otherSends_1 rfl ?_
  refine gj_iand (pc' := 3) dX10_otherSends_2 rfl ?_
  rw [k4_1 k hk]
  refine gj_if_eq (pc' := 6) (tgt := 10) dX10_otherSends_3 (by decide) rfl (by split <;> omega) (fun c3 => ?_) (fun c3 => ?_)
  · refine gj_iconst (pc' := 11) dX10_otherSends_10 rfl ?_
    refine gj_zret rfl (by first | rfl | exact gnZ _ | assumption) dX10_otherSends_11 ?_
    first | exact gR_t (by split at c3 <;> simp <;> omega) | exact gR_f (by split at c3 <;> simp <;> omega)
  · refine gj_iconst (pc' := 7) dX10_otherSends_6 rfl ?_
    refine gj_goto (pc' := 11) dX10_otherSends_7 (by decide) ?_
    refine gj_zret rfl (by first | rfl | exact gnZ _ | assumption) dX10_otherSends_11 ?_
    first | exact gR_t (by split at c3 <;> simp <;> omega) | exact gR_f (by split at c3 <;> simp <;> omega)
theorem s_isRest {h : gH} {w : Int} {k : Nat} (hw : 0 ≤ w ∧ w ≤ 9) (hk : k < 4) : gSp 2 yX10_isRest cX10_isRest 4 (some .boolean) [.int (zI w), .int (zI (k : Int))] h (gR (.int (zI (bI (rsP w k)))) h) := by
  have hg := gn_in hw
  refine gSp_of (by decide +kernel) (Nat.le_of_ble_eq_true rfl) ?_
  show gJ RX10 cX10_isRest 4 (some .boolean) _ 0 [some (.int (zI w)), some (.int (zI (k : Int))), none, none] [] _ _
  refine gj_iload_n (pc' := 1) dX10_isRest_0 rfl rfl ?_
  refine gr_X10_300 (pc' := 4) dX10_isRest_1 rfl (s_oneSends hk) rfl (by decide) rfl (Nat.le_of_ble_eq_true rfl) ?_
  refine gj_istore_n (pc' := 5) dX10_isRest_4 rfl (by decide) ?_
  generalize ho : decide (1 < k) = o
  refine gj_iload_n (pc' := 6) dX10_isRest_5 rfl rfl ?_
  refine gr_X10_303 (pc' := 9) dX10_isRest_6 rfl (s_otherSends hk) rfl (by decide) rfl (Nat.le_of_ble_eq_true rfl) ?_
  refine gj_istore_n (pc' := 10) dX10_isRest_9 rfl (by decide) ?_
  generalize hp : decide (k % 2 = 1) = p
  have hrs : rsP w k = isR w o p := by unfold rsP; rw [ho, hp]
  clear ho hp
  refine gj_iload_n (pc' := 11) dX10_isRest_10 rfl rfl ?_
  refine gj_iload_n (pc' := 12) dX10_isRest_11 rfl rfl ?_
  first | refine gj_ifB_ne (pc' := 15) (tgt := 19) dX10_isRest_12 (by decide) rfl (fun c12 => ?_) (fun c12 => ?_) | refine gj_if_ne (pc' := 15) (tgt := 19) dX10_isRest_12 (by decide) rfl (by omega) (fun c12 => ?_) (fun c12 => ?_)
  · refine gj_iconst (pc' := 20) dX10_isRest_19 rfl ?_
    show gJ _ _ _ _ _ _ _ (.int (zI (bI false)) :: _) _ _
    refine gj_iload_n (pc' := 21) dX10_isRest_20 rfl rfl ?_
    refine gr_X10_293 (pc' := 24) dX10_isRest_21 rfl (s_gain) rfl (by decide) rfl (Nat.le_of_ble_eq_true rfl) ?_
    refine gj_iload_n (pc' := 25) dX10_isRest_24 rfl rfl ?_
    refine gj_iload_n (pc' := 26) dX10_isRest_25 rfl rfl ?_
    refine gj_iload_n (pc' := 27) dX10_isRest_26 rfl rfl ?_
    refine gr_X10_293 (pc' := 30) dX10_isRest_27 rfl (s_gain) rfl (by decide) rfl (Nat.le_of_ble_eq_true rfl) ?_
    refine gj_icmp_gt (pc' := 33) (tgt := 60) dX10_isRest_30 (by decide) rfl (by have g1 := hg true p; have g2 := hg false p; have g3 := hg o p; omega) (fun c30 => ?_) (fun c30 => ?_)
    · refine gj_iconst (pc' := 61) dX10_isRest_60 rfl ?_
      refine gj_zret rfl (by first | rfl | exact gnZ _ | assumption) dX10_isRest_61 ?_
      first | exact gR_t (by rw [hrs]; unfold isR; clear hg; cases o <;> cases p <;> simp_all <;> omega) | exact gR_f (by rw [hrs]; unfold isR; clear hg; cases o <;> cases p <;> simp_all <;> omega)
    · refine gj_iload_n (pc' := 34) dX10_isRest_33 rfl rfl ?_
      refine gj_iload_n (pc' := 35) dX10_isRest_34 rfl rfl ?_
      first | refine gj_ifB_ne (pc' := 38) (tgt := 42) dX10_isRest_35 (by decide) rfl (fun c35 => ?_) (fun c35 => ?_) | refine gj_if_ne (pc' := 38) (tgt := 42) dX10_isRest_35 (by decide) rfl (by omega) (fun c35 => ?_) (fun c35 => ?_)
      · refine gj_iconst (pc' := 43) dX10_isRest_42 rfl ?_
        show gJ _ _ _ _ _ _ _ (.int (zI (bI false)) :: _) _ _
        refine gj_iload_n (pc' := 44) dX10_isRest_43 rfl rfl ?_
        refine gr_X10_293 (pc' := 47) dX10_isRest_44 rfl (s_gain) rfl (by decide) rfl (Nat.le_of_ble_eq_true rfl) ?_
        refine gj_iload_n (pc' := 48) dX10_isRest_47 rfl rfl ?_
        refine gj_iload_n (pc' := 49) dX10_isRest_48 rfl rfl ?_
        refine gj_iload_n (pc' := 50) dX10_isRest_49 rfl rfl ?_
        refine gr_X10_293 (pc' := 53) dX10_isRest_50 rfl (s_gain) rfl (by decide) rfl (Nat.le_of_ble_eq_true rfl) ?_
        refine gj_icmp_gt (pc' := 56) (tgt := 60) dX10_isRest_53 (by decide) rfl (by have g1 := hg true o; have g2 := hg false o; have g3 := hg p o; omega) (fun c53 => ?_) (fun c53 => ?_)
        · refine gj_iconst (pc' := 61) dX10_isRest_60 rfl ?_
          refine gj_zret rfl (by first | rfl | exact gnZ _ | assumption) dX10_isRest_61 ?_
          first | exact gR_t (by rw [hrs]; unfold isR; clear hg; cases o <;> cases p <;> simp_all <;> omega) | exact gR_f (by rw [hrs]; unfold isR; clear hg; cases o <;> cases p <;> simp_all <;> omega)
        · refine gj_iconst (pc' := 57) dX10_isRest_56 rfl ?_
          refine gj_goto (pc' := 61) dX10_isRest_57 (by decide) ?_
          refine gj_zret rfl (by first | rfl | exact gnZ _ | assumption) dX10_isRest_61 ?_
          first | exact gR_t (by rw [hrs]; unfold isR; clear hg; cases o <;> cases p <;> simp_all <;> omega) | exact gR_f (by rw [hrs]; unfold isR; clear hg; cases o <;> cases p <;> simp_all <;> omega)
      · refine gj_iconst (pc' := 39) dX10_isRest_38 rfl ?_
        show gJ _ _ _ _ _ _ _ (.int (zI (bI true)) :: _) _ _
        refine gj_goto (pc' := 43) dX10_isRest_39 (by decide) ?_
        refine gj_iload_n (pc' := 44) dX10_isRest_43 rfl rfl ?_
        refine gr_X10_293 (pc' := 47) dX10_isRest_44 rfl (s_gain) rfl (by decide) rfl (Nat.le_of_ble_eq_true rfl) ?_
        refine gj_iload_n (pc' := 48) dX10_isRest_47 rfl rfl ?_
        refine gj_iload_n (pc' := 49) dX10_isRest_48 rfl rfl ?_
        refine gj_iload_n (pc' := 50) dX10_isRest_49 rfl rfl ?_
        refine gr_X10_293 (pc' := 53) dX10_isRest_50 rfl (s_gain) rfl (by decide) rfl (Nat.le_of_ble_eq_true rfl) ?_
        refine gj_icmp_gt (pc' := 56) (tgt := 60) dX10_isRest_53 (by decide) rfl (by have g1 := hg true o; have g2 := hg false o; have g3 := hg p o; omega) (fun c53 => ?_) (fun c53 => ?_)
        · refine gj_iconst (pc' := 61) dX10_isRest_60 rfl ?_
          refine gj_zret rfl (by first | rfl | exact gnZ _ | assumption) dX10_isRest_61 ?_
          first | exact gR_t (by rw [hrs]; unfold isR; clear hg; cases o <;> cases p <;> simp_all <;> omega) | exact gR_f (by rw [hrs]; unfold isR; clear hg; cases o <;> cases p <;> simp_all <;> omega)
        · refine gj_iconst (pc' := 57) dX10_isRest_56 rfl ?_
          refine gj_goto (pc' := 61) dX10_isRest_57 (by decide) ?_
          refine gj_zret rfl (by first | rfl | exact gnZ _ | assumption) dX10_isRest_61 ?_
          first | exact gR_t (by rw [hrs]; unfold isR; clear hg; cases o <;> cases p <;> simp_all <;> omega) | exact gR_f (by rw [hrs]; unfold isR; clear hg; cases o <;> cases p <;> simp_all <;> omega)
  · refine gj_iconst (pc' := 16) dX10_isRest_15 rfl ?_
    show gJ _ _ _ _ _ _ _ (.int (zI (bI true)) :: _) _ _
    refine gj_goto (pc' := 20) dX10_isRest_16 (by decide) ?_
    refine gj_iload_n (pc' := 21) dX10_isRest_20 rfl rfl ?_
    refine gr_X10_293 (pc' := 24) dX10_isRest_21 rfl (s_gain) rfl (by decide) rfl (Nat.le_of_ble_eq_true rfl) ?_
    refine gj_iload_n (pc' := 25) dX10_isRest_24 rfl rfl ?_
    refine gj_iload_n (pc' := 26) dX10_isRest_25 rfl rfl ?_
    refine gj_iload_n (pc' := 27) dX10_isRest_26 rfl rfl ?_
    refine gr_X10_293 (pc' := 30) dX10_isRest_27 rfl (s_gain) rfl (by decide) rfl (Nat.le_of_ble_eq_true rfl) ?_
    refine gj_icmp_gt (pc' := 33) (tgt := 60) dX10_isRest_30 (by decide) rfl (by have g1 := hg true p; have g2 := hg false p; have g3 := hg o p; omega) (fun c30 => ?_) (fun c30 => ?_)
    · refine gj_iconst (pc' := 61) dX10_isRest_60 rfl ?_
      refine gj_zret rfl (by first | rfl | exact gnZ _ | assumption) dX10_isRest_61 ?_
      first | exact gR_t (by rw [hrs]; unfold isR; clear hg; cases o <;> cases p <;> simp_all <;> omega) | exact gR_f (by rw [hrs]; unfold isR; clear hg; cases o <;> cases p <;> simp_all <;> omega)
    · refine gj_iload_n (pc' := 34) dX10_isRest_33 rfl rfl ?_
      refine gj_iload_n (pc' := 35) dX10_isRest_34 rfl rfl ?_
      first | refine gj_ifB_ne (pc' := 38) (tgt := 42) dX10_isRest_35 (by decide) rfl (fun c35 => ?_) (fun c35 => ?_) | refine gj_if_ne (pc' := 38) (tgt := 42) dX10_isRest_35 (by decide) rfl (by omega) (fun c35 => ?_) (fun c35 => ?_)
      · refine gj_iconst (pc' := 43) dX10_isRest_42 rfl ?_
        show gJ _ _ _ _ _ _ _ (.int (zI (bI false)) :: _) _ _
        refine gj_iload_n (pc' := 44) dX10_isRest_43 rfl rfl ?_
        refine gr_X10_293 (pc' := 47) dX10_isRest_44 rfl (s_gain) rfl (by decide) rfl (Nat.le_of_ble_eq_true rfl) ?_
        refine gj_iload_n (pc' := 48) dX10_isRest_47 rfl rfl ?_
        refine gj_iload_n (pc' := 49) dX10_isRest_48 rfl rfl ?_
        refine gj_iload_n (pc' := 50) dX10_isRest_49 rfl rfl ?_
        refine gr_X10_293 (pc' := 53) dX10_isRest_50 rfl (s_gain) rfl (by decide) rfl (Nat.le_of_ble_eq_true rfl) ?_
        refine gj_icmp_gt (pc' := 56) (tgt := 60) dX10_isRest_53 (by decide) rfl (by have g1 := hg true o; have g2 := hg false o; have g3 := hg p o; omega) (fun c53 => ?_) (fun c53 => ?_)
        · refine gj_iconst (pc' := 61) dX10_isRest_60 rfl ?_
          refine gj_zret rfl (by first | rfl | exact gnZ _ | assumption) dX10_isRest_61 ?_
          first | exact gR_t (by rw [hrs]; unfold isR; clear hg; cases o <;> cases p <;> simp_all <;> omega) | exact gR_f (by rw [hrs]; unfold isR; clear hg; cases o <;> cases p <;> simp_all <;> omega)
        · refine gj_iconst (pc' := 57) dX10_isRest_56 rfl ?_
          refine gj_goto (pc' := 61) dX10_isRest_57 (by decide) ?_
          refine gj_zret rfl (by first | rfl | exact gnZ _ | assumption) dX10_isRest_61 ?_
          first | exact gR_t (by rw [hrs]; unfold isR; clear hg; cases o <;> cases p <;> simp_all <;> omega) | exact gR_f (by rw [hrs]; unfold isR; clear hg; cases o <;> cases p <;> simp_all <;> omega)
      · refine gj_iconst (pc' := 39) dX10_isRest_38 rfl ?_
        show gJ _ _ _ _ _ _ _ (.int (zI (bI true)) :: _) _ _
        refine gj_goto (pc' := 43) dX10_isRest_39 (by decide) ?_
        refine gj_iload_n (pc' := 44) dX10_isRest_43 rfl rfl ?_
        refine gr_X10_293 (pc' := 47) dX10_isRest_44 rfl (s_gain) rfl (by decide) rfl (Nat.le_of_ble_eq_true rfl) ?_
        refine gj_iload_n (pc' := 48) dX10_isRest_47 rfl rfl ?_
        refine gj_iload_n (pc' := 49) dX10_isRest_48 rfl rfl ?_
        refine gj_iload_n (pc' := 50) dX10_isRest_49 rfl rfl ?_
        refine gr_X10_293 (pc' := 53) dX10_isRest_50 rfl (s_gain) rfl (by decide) rfl (Nat.le_of_ble_eq_true rfl) ?_
        refine gj_icmp_gt (pc' := 56) (tgt := 60) dX10_isRest_53 (by decide) rfl (by have g1 := hg true o; have g2 := hg false o; have g3 := hg p o; omega) (fun c53 => ?_) (fun c53 => ?_)
        · refine gj_iconst (pc' := 61) dX10_isRest_60 rfl ?_
          refine gj_zret rfl (by first | rfl | exact gnZ _ | assumption) dX10_isRest_61 ?_
          first | exact gR_t (by rw [hrs]; unfold isR; clear hg; cases o <;> cases p <;> simp_all <;> omega) | exact gR_f (by rw [hrs]; unfold isR; clear hg; cases o <;> cases p <;> simp_all <;> omega)
        · refine gj_iconst (pc' := 57) dX10_isRest_56 rfl ?_
          refine gj_goto (pc' := 61) dX10_isRest_57 (by decide) ?_
          refine gj_zret rfl (by first | rfl | exact gnZ _ | assumption) dX10_isRest_61 ?_
          first | exact gR_t (by rw [hrs]; unfold isR; clear hg; cases o <;> cases p <;> simp_all <;> omega) | exact gR_f (by rw [hrs]; unfold isR; clear hg; cases o <;> cases p <;> simp_all <;> omega)
theorem m_isRest {h : gH} {w : Int} {o p : Bool} (hw : 0 ≤ w ∧ w ≤ 9) : gSp 2 yX11_isRest cX11_isRest 3 (some .boolean) [.int (zI w), .int (zI (bI o)), .int (zI (bI p))] h (gR (.int (zI (bI (isR w o p)))) h) := by
  have hg := gn_in hw
  refine gSp_of (by decide +kernel) (Nat.le_of_ble_eq_true rfl) ?_
  show gJ RX11 cX11_isRest 3 (some .boolean) _ 0 [some (.int (zI w)), some (.int (zI (bI o))), some (.int (zI (bI p)))] [] _ _
  refine gj_iload_n (pc' := 1) dX11_isRest_0 rfl rfl ?_
  refine gj_iload_n (pc' := 2) dX11_isRest_1 rfl rfl ?_
  first | refine gj_ifB_ne (pc' := 5) (tgt := 9) dX11_isRest_2 (by decide) rfl (fun c2 => ?_) (fun c2 => ?_) | refine gj_if_ne (pc' := 5) (tgt := 9) dX11_isRest_2 (by decide) rfl (by omega) (fun c2 => ?_) (fun c2 => ?_)
  · refine gj_iconst (pc' := 10) dX11_isRest_9 rfl ?_
    show gJ _ _ _ _ _ _ _ (.int (zI (bI false)) :: _) _ _
    refine gj_iload_n (pc' := 11) dX11_isRest_10 rfl rfl ?_
    refine gr_X11_370 (pc' := 14) dX11_isRest_11 rfl (m_hasBy) rfl (by decide) rfl (Nat.le_of_ble_eq_true rfl) ?_
    refine gj_iload_n (pc' := 15) dX11_isRest_14 rfl rfl ?_
    refine gj_iload_n (pc' := 16) dX11_isRest_15 rfl rfl ?_
    refine gj_iload_n (pc' := 17) dX11_isRest_16 rfl rfl ?_
    refine gr_X11_370 (pc' := 20) dX11_isRest_17 rfl (m_hasBy) rfl (by decide) rfl (Nat.le_of_ble_eq_true rfl) ?_
    refine gj_icmp_gt (pc' := 23) (tgt := 50) dX11_isRest_20 (by decide) rfl (by have g1 := hg true p; have g2 := hg false p; have g3 := hg o p; omega) (fun c20 => ?_) (fun c20 => ?_)
    · refine gj_iconst (pc' := 51) dX11_isRest_50 rfl ?_
      refine gj_zret rfl (by first | rfl | exact gnZ _ | assumption) dX11_isRest_51 ?_
      first | exact gR_t (by unfold isR; clear hg; cases o <;> cases p <;> simp_all <;> omega) | exact gR_f (by unfold isR; clear hg; cases o <;> cases p <;> simp_all <;> omega)
    · refine gj_iload_n (pc' := 24) dX11_isRest_23 rfl rfl ?_
      refine gj_iload_n (pc' := 25) dX11_isRest_24 rfl rfl ?_
      first | refine gj_ifB_ne (pc' := 28) (tgt := 32) dX11_isRest_25 (by decide) rfl (fun c25 => ?_) (fun c25 => ?_) | refine gj_if_ne (pc' := 28) (tgt := 32) dX11_isRest_25 (by decide) rfl (by omega) (fun c25 => ?_) (fun c25 => ?_)
      · refine gj_iconst (pc' := 33) dX11_isRest_32 rfl ?_
        show gJ _ _ _ _ _ _ _ (.int (zI (bI false)) :: _) _ _
        refine gj_iload_n (pc' := 34) dX11_isRest_33 rfl rfl ?_
        refine gr_X11_370 (pc' := 37) dX11_isRest_34 rfl (m_hasBy) rfl (by decide) rfl (Nat.le_of_ble_eq_true rfl) ?_
        refine gj_iload_n (pc' := 38) dX11_isRest_37 rfl rfl ?_
        refine gj_iload_n (pc' := 39) dX11_isRest_38 rfl rfl ?_
        refine gj_iload_n (pc' := 40) dX11_isRest_39 rfl rfl ?_
        refine gr_X11_370 (pc' := 43) dX11_isRest_40 rfl (m_hasBy) rfl (by decide) rfl (Nat.le_of_ble_eq_true rfl) ?_
        refine gj_icmp_gt (pc' := 46) (tgt := 50) dX11_isRest_43 (by decide) rfl (by have g1 := hg true o; have g2 := hg false o; have g3 := hg p o; omega) (fun c43 => ?_) (fun c43 => ?_)
        · refine gj_iconst (pc' := 51) dX11_isRest_50 rfl ?_
          refine gj_zret rfl (by first | rfl | exact gnZ _ | assumption) dX11_isRest_51 ?_
          first | exact gR_t (by unfold isR; clear hg; cases o <;> cases p <;> simp_all <;> omega) | exact gR_f (by unfold isR; clear hg; cases o <;> cases p <;> simp_all <;> omega)
        · refine gj_iconst (pc' := 47) dX11_isRest_46 rfl ?_
          refine gj_goto (pc' := 51) dX11_isRest_47 (by decide) ?_
          refine gj_zret rfl (by first | rfl | exact gnZ _ | assumption) dX11_isRest_51 ?_
          first | exact gR_t (by unfold isR; clear hg; cases o <;> cases p <;> simp_all <;> omega) | exact gR_f (by unfold isR; clear hg; cases o <;> cases p <;> simp_all <;> omega)
      · refine gj_iconst (pc' := 29) dX11_isRest_28 rfl ?_
        show gJ _ _ _ _ _ _ _ (.int (zI (bI true)) :: _) _ _
        refine gj_goto (pc' := 33) dX11_isRest_29 (by decide) ?_
        refine gj_iload_n (pc' := 34) dX11_isRest_33 rfl rfl ?_
        refine gr_X11_370 (pc' := 37) dX11_isRest_34 rfl (m_hasBy) rfl (by decide) rfl (Nat.le_of_ble_eq_true rfl) ?_
        refine gj_iload_n (pc' := 38) dX11_isRest_37 rfl rfl ?_
        refine gj_iload_n (pc' := 39) dX11_isRest_38 rfl rfl ?_
        refine gj_iload_n (pc' := 40) dX11_isRest_39 rfl rfl ?_
        refine gr_X11_370 (pc' := 43) dX11_isRest_40 rfl (m_hasBy) rfl (by decide) rfl (Nat.le_of_ble_eq_true rfl) ?_
        refine gj_icmp_gt (pc' := 46) (tgt := 50) dX11_isRest_43 (by decide) rfl (by have g1 := hg true o; have g2 := hg false o; have g3 := hg p o; omega) (fun c43 => ?_) (fun c43 => ?_)
        · refine gj_iconst (pc' := 51) dX11_isRest_50 rfl ?_
          refine gj_zret rfl (by first | rfl | exact gnZ _ | assumption) dX11_isRest_51 ?_
          first | exact gR_t (by unfold isR; clear hg; cases o <;> cases p <;> simp_all <;> omega) | exact gR_f (by unfold isR; clear hg; cases o <;> cases p <;> simp_all <;> omega)
        · refine gj_iconst (pc' := 47) dX11_isRest_46 rfl ?_
          refine gj_goto (pc' := 51) dX11_isRest_47 (by decide) ?_
          refine gj_zret rfl (by first | rfl | exact gnZ _ | assumption) dX11_isRest_51 ?_
          first | exact gR_t (by unfold isR; clear hg; cases o <;> cases p <;> simp_all <;> omega) | exact gR_f (by unfold isR; clear hg; cases o <;> cases p <;> simp_all <;> omega)
  · refine gj_iconst (pc' := 6) dX11_isRest_5 rfl ?_
    show gJ _ _ _ _ _ _ _ (.int (zI (bI true)) :: _) _ _
    refine gj_goto (pc' := 10) dX11_isRest_6 (by decide) ?_
    refine gj_iload_n (pc' := 11) dX11_isRest_10 rfl rfl ?_
    refine gr_X11_370 (pc' := 14) dX11_isRest_11 rfl (m_hasBy) rfl (by decide) rfl (Nat.le_of_ble_eq_true rfl) ?_
    refine gj_iload_n (pc' := 15) dX11_isRest_14 rfl rfl ?_
    refine gj_iload_n (pc' := 16) dX11_isRest_15 rfl rfl ?_
    refine gj_iload_n (pc' := 17) dX11_isRest_16 rfl rfl ?_
    refine gr_X11_370 (pc' := 20) dX11_isRest_17 rfl (m_hasBy) rfl (by decide) rfl (Nat.le_of_ble_eq_true rfl) ?_
    refine gj_icmp_gt (pc' := 23) (tgt := 50) dX11_isRest_20 (by decide) rfl (by have g1 := hg true p; have g2 := hg false p; have g3 := hg o p; omega) (fun c20 => ?_) (fun c20 => ?_)
    · refine gj_iconst (pc' := 51) dX11_isRest_50 rfl ?_
      refine gj_zret rfl (by first | rfl | exact gnZ _ | assumption) dX11_isRest_51 ?_
      first | exact gR_t (by unfold isR; clear hg; cases o <;> cases p <;> simp_all <;> omega) | exact gR_f (by unfold isR; clear hg; cases o <;> cases p <;> simp_all <;> omega)
    · refine gj_iload_n (pc' := 24) dX11_isRest_23 rfl rfl ?_
      refine gj_iload_n (pc' := 25) dX11_isRest_24 rfl rfl ?_
      first | refine gj_ifB_ne (pc' := 28) (tgt := 32) dX11_isRest_25 (by decide) rfl (fun c25 => ?_) (fun c25 => ?_) | refine gj_if_ne (pc' := 28) (tgt := 32) dX11_isRest_25 (by decide) rfl (by omega) (fun c25 => ?_) (fun c25 => ?_)
      · refine gj_iconst (pc' := 33) dX11_isRest_32 rfl ?_
        show gJ _ _ _ _ _ _ _ (.int (zI (bI false)) :: _) _ _
        refine gj_iload_n (pc' := 34) dX11_isRest_33 rfl rfl ?_
        refine gr_X11_370 (pc' := 37) dX11_isRest_34 rfl (m_hasBy) rfl (by decide) rfl (Nat.le_of_ble_eq_true rfl) ?_
        refine gj_iload_n (pc' := 38) dX11_isRest_37 rfl rfl ?_
        refine gj_iload_n (pc' := 39) dX11_isRest_38 rfl rfl ?_
        refine gj_iload_n (pc' := 40) dX11_isRest_39 rfl rfl ?_
        refine gr_X11_370 (pc' := 43) dX11_isRest_40 rfl (m_hasBy) rfl (by decide) rfl (Nat.le_of_ble_eq_true rfl) ?_
        refine gj_icmp_gt (pc' := 46) (tgt := 50) dX11_isRest_43 (by decide) rfl (by have g1 := hg true o; have g2 := hg false o; have g3 := hg p o; omega) (fun c43 => ?_) (fun c43 => ?_)
        · refine gj_iconst (pc' := 51) dX11_isRest_50 rfl ?_
          refine gj_zret rfl (by first | rfl | exact gnZ _ | assumption) dX11_isRest_51 ?_
          first | exact gR_t (by unfold isR; clear hg; cases o <;> cases p <;> simp_all <;> omega) | exact gR_f (by unfold isR; clear hg; cases o <;> cases p <;> simp_all <;> omega)
        · refine gj_iconst (pc' := 47) dX11_isRest_46 rfl ?_
          refine gj_goto (pc' := 51) dX11_isRest_47 (by decide) ?_
          refine gj_zret rfl (by first | rfl | exact gnZ _ | assumption) dX11_isRest_51 ?_
          first | exact gR_t (by unfold isR; clear hg; cases o <;> cases p <;> simp_all <;> omega) | exact gR_f (by unfold isR; clear hg; cases o <;> cases p <;> simp_all <;> omega)
      · refine gj_iconst (pc' := 29) dX11_isRest_28 rfl ?_
        show gJ _ _ _ _ _ _ _ (.int (zI (bI true)) :: _) _ _
        refine gj_goto (pc' := 33) dX11_isRest_29 (by decide) ?_
        refine gj_iload_n (pc' := 34) dX11_isRest_33 rfl rfl ?_
        refine gr_X11_370 (pc' := 37) dX11_isRest_34 rfl (m_hasBy) rfl (by decide) rfl (Nat.le_of_ble_eq_true rfl) ?_
        refine gj_iload_n (pc' := 38) dX11_isRest_37 rfl rfl ?_
        refine gj_iload_n (pc' := 39) dX11_isRest_38 rfl rfl ?_
        refine gj_iload_n (pc' := 40) dX11_isRest_39 rfl rfl ?_
        refine gr_X11_370 (pc' := 43) dX11_isRest_40 rfl (m_hasBy) rfl (by decide) rfl (Nat.le_of_ble_eq_true rfl) ?_
        refine gj_icmp_gt (pc' := 46) (tgt := 50) dX11_isRest_43 (by decide) rfl (by have g1 := hg true o; have g2 := hg false o; have g3 := hg p o; omega) (fun c43 => ?_) (fun c43 => ?_)
        · refine gj_iconst (pc' := 51) dX11_isRest_50 rfl ?_
          refine gj_zret rfl (by first | rfl | exact gnZ _ | assumption) dX11_isRest_51 ?_
          first | exact gR_t (by unfold isR; clear hg; cases o <;> cases p <;> simp_all <;> omega) | exact gR_f (by unfold isR; clear hg; cases o <;> cases p <;> simp_all <;> omega)
        · refine gj_iconst (pc' := 47) dX11_isRest_46 rfl ?_
          refine gj_goto (pc' := 51) dX11_isRest_47 (by decide) ?_
          refine gj_zret rfl (by first | rfl | exact gnZ _ | assumption) dX11_isRest_51 ?_
          first | exact gR_t (by unfold isR; clear hg; cases o <;> cases p <;> simp_all <;> omega) | exact gR_f (by unfold isR; clear hg; cases o <;> cases p <;> simp_all <;> omega)
theorem fst4 {p : Nat → Bool} : ∀ {N : Nat}, -2 ≤ fstN p N ∧ fstN p N < N
  | 0 => ⟨by show (-2 : Int) ≤ -2; omega, by show (-2 : Int) < 0; omega⟩
  | N + 1 => by
    have ih := fst4 (p := p) (N := N)
    rw [fstN_s]
    split <;> omega
theorem m_seekRests {h : gH} {w : Int} (hw : 0 ≤ w ∧ w ≤ 9) : gSp 3 yX11_seekRests cX11_seekRests 4 (some .int) [.ref 142, .int (zI w)] h (fun v h' => v = some (.int (zI (sN (fun k => (rsP w k).toNat) 4 : Nat))) ∧ h'.2 = h.2 ∧ (∀ o, o ≠ 142 → h'.1 o = h.1 o) ∧ (∀ k, k ≠ 33 → h'.1 142 k = h.1 142 k) ∧ h'.1 142 33 = rsV (fstN (rsP w) 4)) := by
  refine gSp_of (by decide +kernel) (Nat.le_of_ble_eq_true rfl) ?_
  show gJ RX11 cX11_seekRests 4 (some .int) _ 0 [some (.ref 142), some (.int (zI w)), none, none] [] _ _
  refine gj_iconst (pc' := 1) dX11_seekRests_0 rfl ?_
  refine gj_istore_n (pc' := 2) dX11_seekRests_1 rfl (by decide) ?_
  refine gj_aload_n (pc' := 3) dX11_seekRests_2 rfl rfl ?_
  refine gj_bipush (pc' := 5) dX11_seekRests_3 rfl (by decide) ?_
  refine gp_X11_374 (pc' := 8) dX11_seekRests_5 rfl (by first | rfl | assumption) rfl ?_
  refine gj_iconst (pc' := 9) dX11_seekRests_8 rfl ?_
  refine gj_istore_n (pc' := 10) dX11_seekRests_9 rfl (by decide) ?_
  refine gJ_wk (gJ_fH1 (L := fun k x => [some (.ref 142), some (.int (zI w)), some (.int (zI x)), some (.int (zI (k : Int)))]) (I := fun k x hp => x = ((sN (fun k => (rsP w k).toNat) k : Nat) : Int) ∧ (x = 0 ↔ fstN (rsP w) k = -2) ∧ hp.2 = h.2 ∧ (∀ o, o ≠ 142 → hp.1 o = h.1 o) ∧ (∀ k, k ≠ 33 → hp.1 142 k = h.1 142 k) ∧ hp.1 142 33 = rsV (fstN (rsP w) k)) (4) (fun k x hp hb_k iv_k ih_k => ?step_1) (0) (Nat.zero_le _) ?x0_1 _ ?iv0_1) ?ll0_1
  case ll0_1 =>
    repeat' (first | exact True.intro | with_reducible exact rfl | refine And.intro ?_ ?_ | refine vI ?_ | refine vL ?_)
    all_goals first | rfl | omega
  case iv0_1 =>
    exact ⟨rfl, ⟨fun _ => rfl, fun _ => rfl⟩, rfl, fun o ho => u2_n ho, fun k hk => by show u2 h.1 142 33 (-2) 142 k = _; rw [u2_s, up1_n hk], rfl⟩
  obtain ⟨hx, hz, i1, i2, i3, i4⟩ := iv_k
  have es : sN (fun k => (rsP w k).toNat) (k + 1) = sN (fun k => (rsP w k).toNat) k + (rsP w k).toNat := rfl
  have ef := fstN_s (rsP w) k
  have hf := fst4 (p := rsP w) (N := k)
  have hsl := sN_le (f := fun k => (rsP w k).toNat) (c := 1) (n := k) (fun i _ => Bool.toNat_le _)
  refine gj_iload_n (pc' := 11) dX11_seekRests_10 rfl rfl ?_
  refine gj_iconst (pc' := 12) dX11_seekRests_11 rfl ?_
  refine gj_icmp_ge (pc' := 15) (tgt := 74) dX11_seekRests_12 (by decide) rfl (by omega) (fun c12 => ?_) (fun c12 => ?_)
  · refine gj_iload_n (pc' := 75) dX11_seekRests_74 rfl rfl ?_
    refine gj_iret rfl dX11_seekRests_75 ?_
    exact ⟨by rw [hx, show 4 = k by omega], i1, i2, i3, by rw [show 4 = k by omega]; exact i4⟩
  · refine gj_iload_n (pc' := 16) dX11_seekRests_15 rfl rfl ?_
    refine gj_iload_n (pc' := 17) dX11_seekRests_16 rfl rfl ?_
    refine gj_iconst (pc' := 18) dX11_seekRests_17 rfl ?_
    refine gj_icmp_le (pc' := 21) (tgt := 25) dX11_seekRests_18 (by decide) rfl (by omega) (fun c18 => ?_) (fun c18 => ?_)
    · refine gj_iconst (pc' := 26) dX11_seekRests_25 rfl ?_
      show gJ _ _ _ _ _ _ _ (.int (zI (bI false)) :: _) _ _
      first | rw [show bI true = bI (decide (1 < k)) by rw [decide_eq_true (by omega)]] | rw [show bI false = bI (decide (1 < k)) by rw [decide_eq_false (by omega)]]
      refine gj_iload_n (pc' := 27) dX11_seekRests_26 rfl rfl ?_
      refine gj_iconst (pc' := 28) dX11_seekRests_27 rfl ?_
      refine gj_irem (pc' := 29) dX11_seekRests_28 rfl (by omega) (by omega) ?_
      refine gj_iconst (pc' := 30) dX11_seekRests_29 rfl ?_
      refine gj_icmp_ne (pc' := 33) (tgt := 37) dX11_seekRests_30 (by decide) rfl (by omega) (fun c30 => ?_) (fun c30 => ?_)
      · refine gj_iconst (pc' := 38) dX11_seekRests_37 rfl ?_
        show gJ _ _ _ _ _ _ _ (.int (zI (bI false)) :: _) _ _
        rw [show false = decide (k % 2 = 1) from (decide_eq_false (by omega)).symm]
        refine gr_X11_377 (pc' := 41) dX11_seekRests_38 rfl (m_isRest hw) rfl (by decide) rfl (Nat.le_of_ble_eq_true rfl) ?_
        first | refine gj_ifB_ne (pc' := 44) (tgt := 47) dX11_seekRests_41 (by decide) rfl (fun c41 => ?_) (fun c41 => ?_) | refine gj_if_ne (pc' := 44) (tgt := 47) dX11_seekRests_41 (by decide) rfl (by omega) (fun c41 => ?_) (fun c41 => ?_)
        · refine gj_iload_n (pc' := 48) dX11_seekRests_47 rfl rfl ?_
          refine gj_if_ne (pc' := 51) (tgt := 65) dX11_seekRests_48 (by decide) rfl (by omega) (fun c48 => ?_) (fun c48 => ?_)
          · refine gj_iinc (pc' := 68) dX11_seekRests_65 rfl rfl (by decide) ?_
            refine gj_iinc (pc' := 71) dX11_seekRests_68 rfl rfl (by decide) ?_
            refine gj_goto (pc' := 10) dX11_seekRests_71 (by decide) ?_
            refine gJ_wk (ih_k ?x_2 _ (by omega) ?iv_2) ?ll_2
            case ll_2 =>
              repeat' (first | exact True.intro | with_reducible exact rfl | refine And.intro ?_ ?_ | refine vI ?_ | refine vL ?_)
              all_goals omega
            first
            | (have hr : rsP w k = true := c41
               rw [hr] at es ef
               have es2 : sN (fun k => (rsP w k).toNat) (k + 1) = sN (fun k => (rsP w k).toNat) k + 1 := es
               by_cases q : fstN (rsP w) k = -2
               · rw [if_pos ⟨q, rfl⟩] at ef
                 first
                 | (exfalso; have := hz.mpr q; omega)
                 | (refine ⟨by omega, by rw [ef]; omega, i1, fun o ho => (u2_n ho).trans (i2 o ho), fun j hj => by show u2 hp.1 142 33 _ 142 j = _; rw [u2_s, up1_n hj]; exact i3 j hj, ?_⟩; rw [ef]; unfold rsV; rw [if_neg (by omega)]; exact rfl)
               · rw [if_neg (fun z => q z.1)] at ef
                 first
                 | (exfalso; apply q; apply hz.mp; omega)
                 | (refine ⟨by omega, by rw [ef]; constructor <;> intro z <;> omega, i1, i2, i3, by rw [ef]; exact i4⟩))
            | (have hr : rsP w k = false := c41
               rw [hr] at es ef
               have es2 : sN (fun k => (rsP w k).toNat) (k + 1) = sN (fun k => (rsP w k).toNat) k + 0 := es
               rw [if_neg (fun z => absurd z.2 (by decide))] at ef
               exact ⟨by omega, by rw [ef]; exact hz, i1, i2, i3, by rw [ef]; exact i4⟩)
          · refine gj_aload_n (pc' := 52) dX11_seekRests_51 rfl rfl ?_
            refine gj_bipush (pc' := 54) dX11_seekRests_52 rfl (by decide) ?_
            refine gj_iload_n (pc' := 55) dX11_seekRests_54 rfl rfl ?_
            refine gj_iconst (pc' := 56) dX11_seekRests_55 rfl ?_
            refine gj_idiv (pc' := 57) dX11_seekRests_56 rfl (by omega) (by omega) ?_
            refine gj_imul (pc' := 58) dX11_seekRests_57 rfl ?_
            refine gj_iload_n (pc' := 59) dX11_seekRests_58 rfl rfl ?_
            refine gj_iconst (pc' := 60) dX11_seekRests_59 rfl ?_
            refine gj_irem (pc' := 61) dX11_seekRests_60 rfl (by omega) (by omega) ?_
            refine gj_iadd (pc' := 62) dX11_seekRests_61 rfl ?_
            refine gp_X11_374 (pc' := 65) dX11_seekRests_62 rfl (by first | rfl | assumption) rfl ?_
            refine gj_iinc (pc' := 68) dX11_seekRests_65 rfl rfl (by decide) ?_
            refine gj_iinc (pc' := 71) dX11_seekRests_68 rfl rfl (by decide) ?_
            refine gj_goto (pc' := 10) dX11_seekRests_71 (by decide) ?_
            refine gJ_wk (ih_k ?x_3 _ (by omega) ?iv_3) ?ll_3
            case ll_3 =>
              repeat' (first | exact True.intro | with_reducible exact rfl | refine And.intro ?_ ?_ | refine vI ?_ | refine vL ?_)
              all_goals omega
            first
            | (have hr : rsP w k = true := c41
               rw [hr] at es ef
               have es2 : sN (fun k => (rsP w k).toNat) (k + 1) = sN (fun k => (rsP w k).toNat) k + 1 := es
               by_cases q : fstN (rsP w) k = -2
               · rw [if_pos ⟨q, rfl⟩] at ef
                 first
                 | (exfalso; have := hz.mpr q; omega)
                 | (refine ⟨by omega, by rw [ef]; omega, i1, fun o ho => (u2_n ho).trans (i2 o ho), fun j hj => by show u2 hp.1 142 33 _ 142 j = _; rw [u2_s, up1_n hj]; exact i3 j hj, ?_⟩; rw [ef]; unfold rsV; rw [if_neg (by omega)]; exact rfl)
               · rw [if_neg (fun z => q z.1)] at ef
                 first
                 | (exfalso; apply q; apply hz.mp; omega)
                 | (refine ⟨by omega, by rw [ef]; constructor <;> intro z <;> omega, i1, i2, i3, by rw [ef]; exact i4⟩))
            | (have hr : rsP w k = false := c41
               rw [hr] at es ef
               have es2 : sN (fun k => (rsP w k).toNat) (k + 1) = sN (fun k => (rsP w k).toNat) k + 0 := es
               rw [if_neg (fun z => absurd z.2 (by decide))] at ef
               exact ⟨by omega, by rw [ef]; exact hz, i1, i2, i3, by rw [ef]; exact i4⟩)
        · refine gj_goto (pc' := 68) dX11_seekRests_44 (by decide) ?_
          refine gj_iinc (pc' := 71) dX11_seekRests_68 rfl rfl (by decide) ?_
          refine gj_goto (pc' := 10) dX11_seekRests_71 (by decide) ?_
          refine gJ_wk (ih_k ?x_4 _ (by omega) ?iv_4) ?ll_4
          case ll_4 =>
            repeat' (first | exact True.intro | with_reducible exact rfl | refine And.intro ?_ ?_ | refine vI ?_ | refine vL ?_)
            all_goals omega
          first
          | (have hr : rsP w k = true := c41
             rw [hr] at es ef
             have es2 : sN (fun k => (rsP w k).toNat) (k + 1) = sN (fun k => (rsP w k).toNat) k + 1 := es
             by_cases q : fstN (rsP w) k = -2
             · rw [if_pos ⟨q, rfl⟩] at ef
               first
               | (exfalso; have := hz.mpr q; omega)
               | (refine ⟨by omega, by rw [ef]; omega, i1, fun o ho => (u2_n ho).trans (i2 o ho), fun j hj => by show u2 hp.1 142 33 _ 142 j = _; rw [u2_s, up1_n hj]; exact i3 j hj, ?_⟩; rw [ef]; unfold rsV; rw [if_neg (by omega)]; exact rfl)
             · rw [if_neg (fun z => q z.1)] at ef
               first
               | (exfalso; apply q; apply hz.mp; omega)
               | (refine ⟨by omega, by rw [ef]; constructor <;> intro z <;> omega, i1, i2, i3, by rw [ef]; exact i4⟩))
          | (have hr : rsP w k = false := c41
             rw [hr] at es ef
             have es2 : sN (fun k => (rsP w k).toNat) (k + 1) = sN (fun k => (rsP w k).toNat) k + 0 := es
             rw [if_neg (fun z => absurd z.2 (by decide))] at ef
             exact ⟨by omega, by rw [ef]; exact hz, i1, i2, i3, by rw [ef]; exact i4⟩)
      · refine gj_iconst (pc' := 34) dX11_seekRests_33 rfl ?_
        show gJ _ _ _ _ _ _ _ (.int (zI (bI true)) :: _) _ _
        rw [show true = decide (k % 2 = 1) from (decide_eq_true (by omega)).symm]
        refine gj_goto (pc' := 38) dX11_seekRests_34 (by decide) ?_
        refine gr_X11_377 (pc' := 41) dX11_seekRests_38 rfl (m_isRest hw) rfl (by decide) rfl (Nat.le_of_ble_eq_true rfl) ?_
        first | refine gj_ifB_ne (pc' := 44) (tgt := 47) dX11_seekRests_41 (by decide) rfl (fun c41 => ?_) (fun c41 => ?_) | refine gj_if_ne (pc' := 44) (tgt := 47) dX11_seekRests_41 (by decide) rfl (by omega) (fun c41 => ?_) (fun c41 => ?_)
        · refine gj_iload_n (pc' := 48) dX11_seekRests_47 rfl rfl ?_
          refine gj_if_ne (pc' := 51) (tgt := 65) dX11_seekRests_48 (by decide) rfl (by omega) (fun c48 => ?_) (fun c48 => ?_)
          · refine gj_iinc (pc' := 68) dX11_seekRests_65 rfl rfl (by decide) ?_
            refine gj_iinc (pc' := 71) dX11_seekRests_68 rfl rfl (by decide) ?_
            refine gj_goto (pc' := 10) dX11_seekRests_71 (by decide) ?_
            refine gJ_wk (ih_k ?x_5 _ (by omega) ?iv_5) ?ll_5
            case ll_5 =>
              repeat' (first | exact True.intro | with_reducible exact rfl | refine And.intro ?_ ?_ | refine vI ?_ | refine vL ?_)
              all_goals omega
            first
            | (have hr : rsP w k = true := c41
               rw [hr] at es ef
               have es2 : sN (fun k => (rsP w k).toNat) (k + 1) = sN (fun k => (rsP w k).toNat) k + 1 := es
               by_cases q : fstN (rsP w) k = -2
               · rw [if_pos ⟨q, rfl⟩] at ef
                 first
                 | (exfalso; have := hz.mpr q; omega)
                 | (refine ⟨by omega, by rw [ef]; omega, i1, fun o ho => (u2_n ho).trans (i2 o ho), fun j hj => by show u2 hp.1 142 33 _ 142 j = _; rw [u2_s, up1_n hj]; exact i3 j hj, ?_⟩; rw [ef]; unfold rsV; rw [if_neg (by omega)]; exact rfl)
               · rw [if_neg (fun z => q z.1)] at ef
                 first
                 | (exfalso; apply q; apply hz.mp; omega)
                 | (refine ⟨by omega, by rw [ef]; constructor <;> intro z <;> omega, i1, i2, i3, by rw [ef]; exact i4⟩))
            | (have hr : rsP w k = false := c41
               rw [hr] at es ef
               have es2 : sN (fun k => (rsP w k).toNat) (k + 1) = sN (fun k => (rsP w k).toNat) k + 0 := es
               rw [if_neg (fun z => absurd z.2 (by decide))] at ef
               exact ⟨by omega, by rw [ef]; exact hz, i1, i2, i3, by rw [ef]; exact i4⟩)
          · refine gj_aload_n (pc' := 52) dX11_seekRests_51 rfl rfl ?_
            refine gj_bipush (pc' := 54) dX11_seekRests_52 rfl (by decide) ?_
            refine gj_iload_n (pc' := 55) dX11_seekRests_54 rfl rfl ?_
            refine gj_iconst (pc' := 56) dX11_seekRests_55 rfl ?_
            refine gj_idiv (pc' := 57) dX11_seekRests_56 rfl (by omega) (by omega) ?_
            refine gj_imul (pc' := 58) dX11_seekRests_57 rfl ?_
            refine gj_iload_n (pc' := 59) dX11_seekRests_58 rfl rfl ?_
            refine gj_iconst (pc' := 60) dX11_seekRests_59 rfl ?_
            refine gj_irem (pc' := 61) dX11_seekRests_60 rfl (by omega) (by omega) ?_
            refine gj_iadd (pc' := 62) dX11_seekRests_61 rfl ?_
            refine gp_X11_374 (pc' := 65) dX11_seekRests_62 rfl (by first | rfl | assumption) rfl ?_
            refine gj_iinc (pc' := 68) dX11_seekRests_65 rfl rfl (by decide) ?_
            refine gj_iinc (pc' := 71) dX11_seekRests_68 rfl rfl (by decide) ?_
            refine gj_goto (pc' := 10) dX11_seekRests_71 (by decide) ?_
            refine gJ_wk (ih_k ?x_6 _ (by omega) ?iv_6) ?ll_6
            case ll_6 =>
              repeat' (first | exact True.intro | with_reducible exact rfl | refine And.intro ?_ ?_ | refine vI ?_ | refine vL ?_)
              all_goals omega
            first
            | (have hr : rsP w k = true := c41
               rw [hr] at es ef
               have es2 : sN (fun k => (rsP w k).toNat) (k + 1) = sN (fun k => (rsP w k).toNat) k + 1 := es
               by_cases q : fstN (rsP w) k = -2
               · rw [if_pos ⟨q, rfl⟩] at ef
                 first
                 | (exfalso; have := hz.mpr q; omega)
                 | (refine ⟨by omega, by rw [ef]; omega, i1, fun o ho => (u2_n ho).trans (i2 o ho), fun j hj => by show u2 hp.1 142 33 _ 142 j = _; rw [u2_s, up1_n hj]; exact i3 j hj, ?_⟩; rw [ef]; unfold rsV; rw [if_neg (by omega)]; exact rfl)
               · rw [if_neg (fun z => q z.1)] at ef
                 first
                 | (exfalso; apply q; apply hz.mp; omega)
                 | (refine ⟨by omega, by rw [ef]; constructor <;> intro z <;> omega, i1, i2, i3, by rw [ef]; exact i4⟩))
            | (have hr : rsP w k = false := c41
               rw [hr] at es ef
               have es2 : sN (fun k => (rsP w k).toNat) (k + 1) = sN (fun k => (rsP w k).toNat) k + 0 := es
               rw [if_neg (fun z => absurd z.2 (by decide))] at ef
               exact ⟨by omega, by rw [ef]; exact hz, i1, i2, i3, by rw [ef]; exact i4⟩)
        · refine gj_goto (pc' := 68) dX11_seekRests_44 (by decide) ?_
          refine gj_iinc (pc' := 71) dX11_seekRests_68 rfl rfl (by decide) ?_
          refine gj_goto (pc' := 10) dX11_seekRests_71 (by decide) ?_
          refine gJ_wk (ih_k ?x_7 _ (by omega) ?iv_7) ?ll_7
          case ll_7 =>
            repeat' (first | exact True.intro | with_reducible exact rfl | refine And.intro ?_ ?_ | refine vI ?_ | refine vL ?_)
            all_goals omega
          first
          | (have hr : rsP w k = true := c41
             rw [hr] at es ef
             have es2 : sN (fun k => (rsP w k).toNat) (k + 1) = sN (fun k => (rsP w k).toNat) k + 1 := es
             by_cases q : fstN (rsP w) k = -2
             · rw [if_pos ⟨q, rfl⟩] at ef
               first
               | (exfalso; have := hz.mpr q; omega)
               | (refine ⟨by omega, by rw [ef]; omega, i1, fun o ho => (u2_n ho).trans (i2 o ho), fun j hj => by show u2 hp.1 142 33 _ 142 j = _; rw [u2_s, up1_n hj]; exact i3 j hj, ?_⟩; rw [ef]; unfold rsV; rw [if_neg (by omega)]; exact rfl)
             · rw [if_neg (fun z => q z.1)] at ef
               first
               | (exfalso; apply q; apply hz.mp; omega)
               | (refine ⟨by omega, by rw [ef]; constructor <;> intro z <;> omega, i1, i2, i3, by rw [ef]; exact i4⟩))
          | (have hr : rsP w k = false := c41
             rw [hr] at es ef
             have es2 : sN (fun k => (rsP w k).toNat) (k + 1) = sN (fun k => (rsP w k).toNat) k + 0 := es
             rw [if_neg (fun z => absurd z.2 (by decide))] at ef
             exact ⟨by omega, by rw [ef]; exact hz, i1, i2, i3, by rw [ef]; exact i4⟩)
    · refine gj_iconst (pc' := 22) dX11_seekRests_21 rfl ?_
      show gJ _ _ _ _ _ _ _ (.int (zI (bI true)) :: _) _ _
      refine gj_goto (pc' := 26) dX11_seekRests_22 (by decide) ?_
      first | rw [show bI true = bI (decide (1 < k)) by rw [decide_eq_true (by omega)]] | rw [show bI false = bI (decide (1 < k)) by rw [decide_eq_false (by omega)]]
      refine gj_iload_n (pc' := 27) dX11_seekRests_26 rfl rfl ?_
      refine gj_iconst (pc' := 28) dX11_seekRests_27 rfl ?_
      refine gj_irem (pc' := 29) dX11_seekRests_28 rfl (by omega) (by omega) ?_
      refine gj_iconst (pc' := 30) dX11_seekRests_29 rfl ?_
      refine gj_icmp_ne (pc' := 33) (tgt := 37) dX11_seekRests_30 (by decide) rfl (by omega) (fun c30 => ?_) (fun c30 => ?_)
      · refine gj_iconst (pc' := 38) dX11_seekRests_37 rfl ?_
        show gJ _ _ _ _ _ _ _ (.int (zI (bI false)) :: _) _ _
        rw [show false = decide (k % 2 = 1) from (decide_eq_false (by omega)).symm]
        refine gr_X11_377 (pc' := 41) dX11_seekRests_38 rfl (m_isRest hw) rfl (by decide) rfl (Nat.le_of_ble_eq_true rfl) ?_
        first | refine gj_ifB_ne (pc' := 44) (tgt := 47) dX11_seekRests_41 (by decide) rfl (fun c41 => ?_) (fun c41 => ?_) | refine gj_if_ne (pc' := 44) (tgt := 47) dX11_seekRests_41 (by decide) rfl (by omega) (fun c41 => ?_) (fun c41 => ?_)
        · refine gj_iload_n (pc' := 48) dX11_seekRests_47 rfl rfl ?_
          refine gj_if_ne (pc' := 51) (tgt := 65) dX11_seekRests_48 (by decide) rfl (by omega) (fun c48 => ?_) (fun c48 => ?_)
          · refine gj_iinc (pc' := 68) dX11_seekRests_65 rfl rfl (by decide) ?_
            refine gj_iinc (pc' := 71) dX11_seekRests_68 rfl rfl (by decide) ?_
            refine gj_goto (pc' := 10) dX11_seekRests_71 (by decide) ?_
            refine gJ_wk (ih_k ?x_8 _ (by omega) ?iv_8) ?ll_8
            case ll_8 =>
              repeat' (first | exact True.intro | with_reducible exact rfl | refine And.intro ?_ ?_ | refine vI ?_ | refine vL ?_)
              all_goals omega
            first
            | (have hr : rsP w k = true := c41
               rw [hr] at es ef
               have es2 : sN (fun k => (rsP w k).toNat) (k + 1) = sN (fun k => (rsP w k).toNat) k + 1 := es
               by_cases q : fstN (rsP w) k = -2
               · rw [if_pos ⟨q, rfl⟩] at ef
                 first
                 | (exfalso; have := hz.mpr q; omega)
                 | (refine ⟨by omega, by rw [ef]; omega, i1, fun o ho => (u2_n ho).trans (i2 o ho), fun j hj => by show u2 hp.1 142 33 _ 142 j = _; rw [u2_s, up1_n hj]; exact i3 j hj, ?_⟩; rw [ef]; unfold rsV; rw [if_neg (by omega)]; exact rfl)
               · rw [if_neg (fun z => q z.1)] at ef
                 first
                 | (exfalso; apply q; apply hz.mp; omega)
                 | (refine ⟨by omega, by rw [ef]; constructor <;> intro z <;> omega, i1, i2, i3, by rw [ef]; exact i4⟩))
            | (have hr : rsP w k = false := c41
               rw [hr] at es ef
               have es2 : sN (fun k => (rsP w k).toNat) (k + 1) = sN (fun k => (rsP w k).toNat) k + 0 := es
               rw [if_neg (fun z => absurd z.2 (by decide))] at ef
               exact ⟨by omega, by rw [ef]; exact hz, i1, i2, i3, by rw [ef]; exact i4⟩)
          · refine gj_aload_n (pc' := 52) dX11_seekRests_51 rfl rfl ?_
            refine gj_bipush (pc' := 54) dX11_seekRests_52 rfl (by decide) ?_
            refine gj_iload_n (pc' := 55) dX11_seekRests_54 rfl rfl ?_
            refine gj_iconst (pc' := 56) dX11_seekRests_55 rfl ?_
            refine gj_idiv (pc' := 57) dX11_seekRests_56 rfl (by omega) (by omega) ?_
            refine gj_imul (pc' := 58) dX11_seekRests_57 rfl ?_
            refine gj_iload_n (pc' := 59) dX11_seekRests_58 rfl rfl ?_
            refine gj_iconst (pc' := 60) dX11_seekRests_59 rfl ?_
            refine gj_irem (pc' := 61) dX11_seekRests_60 rfl (by omega) (by omega) ?_
            refine gj_iadd (pc' := 62) dX11_seekRests_61 rfl ?_
            refine gp_X11_374 (pc' := 65) dX11_seekRests_62 rfl (by first | rfl | assumption) rfl ?_
            refine gj_iinc (pc' := 68) dX11_seekRests_65 rfl rfl (by decide) ?_
            refine gj_iinc (pc' := 71) dX11_seekRests_68 rfl rfl (by decide) ?_
            refine gj_goto (pc' := 10) dX11_seekRests_71 (by decide) ?_
            refine gJ_wk (ih_k ?x_9 _ (by omega) ?iv_9) ?ll_9
            case ll_9 =>
              repeat' (first | exact True.intro | with_reducible exact rfl | refine And.intro ?_ ?_ | refine vI ?_ | refine vL ?_)
              all_goals omega
            first
            | (have hr : rsP w k = true := c41
               rw [hr] at es ef
               have es2 : sN (fun k => (rsP w k).toNat) (k + 1) = sN (fun k => (rsP w k).toNat) k + 1 := es
               by_cases q : fstN (rsP w) k = -2
               · rw [if_pos ⟨q, rfl⟩] at ef
                 first
                 | (exfalso; have := hz.mpr q; omega)
                 | (refine ⟨by omega, by rw [ef]; omega, i1, fun o ho => (u2_n ho).trans (i2 o ho), fun j hj => by show u2 hp.1 142 33 _ 142 j = _; rw [u2_s, up1_n hj]; exact i3 j hj, ?_⟩; rw [ef]; unfold rsV; rw [if_neg (by omega)]; exact rfl)
               · rw [if_neg (fun z => q z.1)] at ef
                 first
                 | (exfalso; apply q; apply hz.mp; omega)
                 | (refine ⟨by omega, by rw [ef]; constructor <;> intro z <;> omega, i1, i2, i3, by rw [ef]; exact i4⟩))
            | (have hr : rsP w k = false := c41
               rw [hr] at es ef
               have es2 : sN (fun k => (rsP w k).toNat) (k + 1) = sN (fun k => (rsP w k).toNat) k + 0 := es
               rw [if_neg (fun z => absurd z.2 (by decide))] at ef
               exact ⟨by omega, by rw [ef]; exact hz, i1, i2, i3, by rw [ef]; exact i4⟩)
        · refine gj_goto (pc' := 68) dX11_seekRests_44 (by decide) ?_
          refine gj_iinc (pc' := 71) dX11_seekRests_68 rfl rfl (by decide) ?_
          refine gj_goto (pc' := 10) dX11_seekRests_71 (by decide) ?_
          refine gJ_wk (ih_k ?x_10 _ (by omega) ?iv_10) ?ll_10
          case ll_10 =>
            repeat' (first | exact True.intro | with_reducible exact rfl | refine And.intro ?_ ?_ | refine vI ?_ | refine vL ?_)
            all_goals omega
          first
          | (have hr : rsP w k = true := c41
             rw [hr] at es ef
             have es2 : sN (fun k => (rsP w k).toNat) (k + 1) = sN (fun k => (rsP w k).toNat) k + 1 := es
             by_cases q : fstN (rsP w) k = -2
             · rw [if_pos ⟨q, rfl⟩] at ef
               first
               | (exfalso; have := hz.mpr q; omega)
               | (refine ⟨by omega, by rw [ef]; omega, i1, fun o ho => (u2_n ho).trans (i2 o ho), fun j hj => by show u2 hp.1 142 33 _ 142 j = _; rw [u2_s, up1_n hj]; exact i3 j hj, ?_⟩; rw [ef]; unfold rsV; rw [if_neg (by omega)]; exact rfl)
             · rw [if_neg (fun z => q z.1)] at ef
               first
               | (exfalso; apply q; apply hz.mp; omega)
               | (refine ⟨by omega, by rw [ef]; constructor <;> intro z <;> omega, i1, i2, i3, by rw [ef]; exact i4⟩))
          | (have hr : rsP w k = false := c41
             rw [hr] at es ef
             have es2 : sN (fun k => (rsP w k).toNat) (k + 1) = sN (fun k => (rsP w k).toNat) k + 0 := es
             rw [if_neg (fun z => absurd z.2 (by decide))] at ef
             exact ⟨by omega, by rw [ef]; exact hz, i1, i2, i3, by rw [ef]; exact i4⟩)
      · refine gj_iconst (pc' := 34) dX11_seekRests_33 rfl ?_
        show gJ _ _ _ _ _ _ _ (.int (zI (bI true)) :: _) _ _
        rw [show true = decide (k % 2 = 1) from (decide_eq_true (by omega)).symm]
        refine gj_goto (pc' := 38) dX11_seekRests_34 (by decide) ?_
        refine gr_X11_377 (pc' := 41) dX11_seekRests_38 rfl (m_isRest hw) rfl (by decide) rfl (Nat.le_of_ble_eq_true rfl) ?_
        first | refine gj_ifB_ne (pc' := 44) (tgt := 47) dX11_seekRests_41 (by decide) rfl (fun c41 => ?_) (fun c41 => ?_) | refine gj_if_ne (pc' := 44) (tgt := 47) dX11_seekRests_41 (by decide) rfl (by omega) (fun c41 => ?_) (fun c41 => ?_)
        · refine gj_iload_n (pc' := 48) dX11_seekRests_47 rfl rfl ?_
          refine gj_if_ne (pc' := 51) (tgt := 65) dX11_seekRests_48 (by decide) rfl (by omega) (fun c48 => ?_) (fun c48 => ?_)
          · refine gj_iinc (pc' := 68) dX11_seekRests_65 rfl rfl (by decide) ?_
            refine gj_iinc (pc' := 71) dX11_seekRests_68 rfl rfl (by decide) ?_
            refine gj_goto (pc' := 10) dX11_seekRests_71 (by decide) ?_
            refine gJ_wk (ih_k ?x_11 _ (by omega) ?iv_11) ?ll_11
            case ll_11 =>
              repeat' (first | exact True.intro | with_reducible exact rfl | refine And.intro ?_ ?_ | refine vI ?_ | refine vL ?_)
              all_goals omega
            first
            | (have hr : rsP w k = true := c41
               rw [hr] at es ef
               have es2 : sN (fun k => (rsP w k).toNat) (k + 1) = sN (fun k => (rsP w k).toNat) k + 1 := es
               by_cases q : fstN (rsP w) k = -2
               · rw [if_pos ⟨q, rfl⟩] at ef
                 first
                 | (exfalso; have := hz.mpr q; omega)
                 | (refine ⟨by omega, by rw [ef]; omega, i1, fun o ho => (u2_n ho).trans (i2 o ho), fun j hj => by show u2 hp.1 142 33 _ 142 j = _; rw [u2_s, up1_n hj]; exact i3 j hj, ?_⟩; rw [ef]; unfold rsV; rw [if_neg (by omega)]; exact rfl)
               · rw [if_neg (fun z => q z.1)] at ef
                 first
                 | (exfalso; apply q; apply hz.mp; omega)
                 | (refine ⟨by omega, by rw [ef]; constructor <;> intro z <;> omega, i1, i2, i3, by rw [ef]; exact i4⟩))
            | (have hr : rsP w k = false := c41
               rw [hr] at es ef
               have es2 : sN (fun k => (rsP w k).toNat) (k + 1) = sN (fun k => (rsP w k).toNat) k + 0 := es
               rw [if_neg (fun z => absurd z.2 (by decide))] at ef
               exact ⟨by omega, by rw [ef]; exact hz, i1, i2, i3, by rw [ef]; exact i4⟩)
          · refine gj_aload_n (pc' := 52) dX11_seekRests_51 rfl rfl ?_
            refine gj_bipush (pc' := 54) dX11_seekRests_52 rfl (by decide) ?_
            refine gj_iload_n (pc' := 55) dX11_seekRests_54 rfl rfl ?_
            refine gj_iconst (pc' := 56) dX11_seekRests_55 rfl ?_
            refine gj_idiv (pc' := 57) dX11_seekRests_56 rfl (by omega) (by omega) ?_
            refine gj_imul (pc' := 58) dX11_seekRests_57 rfl ?_
            refine gj_iload_n (pc' := 59) dX11_seekRests_58 rfl rfl ?_
            refine gj_iconst (pc' := 60) dX11_seekRests_59 rfl ?_
            refine gj_irem (pc' := 61) dX11_seekRests_60 rfl (by omega) (by omega) ?_
            refine gj_iadd (pc' := 62) dX11_seekRests_61 rfl ?_
            refine gp_X11_374 (pc' := 65) dX11_seekRests_62 rfl (by first | rfl | assumption) rfl ?_
            refine gj_iinc (pc' := 68) dX11_seekRests_65 rfl rfl (by decide) ?_
            refine gj_iinc (pc' := 71) dX11_seekRests_68 rfl rfl (by decide) ?_
            refine gj_goto (pc' := 10) dX11_seekRests_71 (by decide) ?_
            refine gJ_wk (ih_k ?x_12 _ (by omega) ?iv_12) ?ll_12
            case ll_12 =>
              repeat' (first | exact True.intro | with_reducible exact rfl | refine And.intro ?_ ?_ | refine vI ?_ | refine vL ?_)
              all_goals omega
            first
            | (have hr : rsP w k = true := c41
               rw [hr] at es ef
               have es2 : sN (fun k => (rsP w k).toNat) (k + 1) = sN (fun k => (rsP w k).toNat) k + 1 := es
               by_cases q : fstN (rsP w) k = -2
               · rw [if_pos ⟨q, rfl⟩] at ef
                 first
                 | (exfalso; have := hz.mpr q; omega)
                 | (refine ⟨by omega, by rw [ef]; omega, i1, fun o ho => (u2_n ho).trans (i2 o ho), fun j hj => by show u2 hp.1 142 33 _ 142 j = _; rw [u2_s, up1_n hj]; exact i3 j hj, ?_⟩; rw [ef]; unfold rsV; rw [if_neg (by omega)]; exact rfl)
               · rw [if_neg (fun z => q z.1)] at ef
                 first
                 | (exfalso; apply q; apply hz.mp; omega)
                 | (refine ⟨by omega, by rw [ef]; constructor <;> intro z <;> omega, i1, i2, i3, by rw [ef]; exact i4⟩))
            | (have hr : rsP w k = false := c41
               rw [hr] at es ef
               have es2 : sN (fun k => (rsP w k).toNat) (k + 1) = sN (fun k => (rsP w k).toNat) k + 0 := es
               rw [if_neg (fun z => absurd z.2 (by decide))] at ef
               exact ⟨by omega, by rw [ef]; exact hz, i1, i2, i3, by rw [ef]; exact i4⟩)
        · refine gj_goto (pc' := 68) dX11_seekRests_44 (by decide) ?_
          refine gj_iinc (pc' := 71) dX11_seekRests_68 rfl rfl (by decide) ?_
          refine gj_goto (pc' := 10) dX11_seekRests_71 (by decide) ?_
          refine gJ_wk (ih_k ?x_13 _ (by omega) ?iv_13) ?ll_13
          case ll_13 =>
            repeat' (first | exact True.intro | with_reducible exact rfl | refine And.intro ?_ ?_ | refine vI ?_ | refine vL ?_)
            all_goals omega
          first
          | (have hr : rsP w k = true := c41
             rw [hr] at es ef
             have es2 : sN (fun k => (rsP w k).toNat) (k + 1) = sN (fun k => (rsP w k).toNat) k + 1 := es
             by_cases q : fstN (rsP w) k = -2
             · rw [if_pos ⟨q, rfl⟩] at ef
               first
               | (exfalso; have := hz.mpr q; omega)
               | (refine ⟨by omega, by rw [ef]; omega, i1, fun o ho => (u2_n ho).trans (i2 o ho), fun j hj => by show u2 hp.1 142 33 _ 142 j = _; rw [u2_s, up1_n hj]; exact i3 j hj, ?_⟩; rw [ef]; unfold rsV; rw [if_neg (by omega)]; exact rfl)
             · rw [if_neg (fun z => q z.1)] at ef
               first
               | (exfalso; apply q; apply hz.mp; omega)
               | (refine ⟨by omega, by rw [ef]; constructor <;> intro z <;> omega, i1, i2, i3, by rw [ef]; exact i4⟩))
          | (have hr : rsP w k = false := c41
             rw [hr] at es ef
             have es2 : sN (fun k => (rsP w k).toNat) (k + 1) = sN (fun k => (rsP w k).toNat) k + 0 := es
             rw [if_neg (fun z => absurd z.2 (by decide))] at ef
             exact ⟨by omega, by rw [ef]; exact hz, i1, i2, i3, by rw [ef]; exact i4⟩)
