/-! the class: a word, a name -/
theorem gstr_X4_79 : (RX4, 79, "loft", 0) ∈ strT := List.mem_of_getElem? (i := 0) rfl
theorem gstr_X4_124 : (RX4, 124, "wings", 5) ∈ strT := List.mem_of_getElem? (i := 1) rfl
theorem gstr_X4_135 : (RX4, 135, "hawks", 6) ∈ strT := List.mem_of_getElem? (i := 2) rfl
theorem gstr_X4_139 : (RX4, 139, "storm", 7) ∈ strT := List.mem_of_getElem? (i := 3) rfl
theorem gstr_X4_88 : (RX4, 88, "house", 1) ∈ strT := List.mem_of_getElem? (i := 4) rfl
theorem gstr_X8_61 : (RX8, 61, "loft", 0) ∈ strT := List.mem_of_getElem? (i := 5) rfl
theorem gstr_X8_67 : (RX8, 67, "house", 1) ∈ strT := List.mem_of_getElem? (i := 6) rfl
theorem gstr_X8_69 : (RX8, 69, "bird", 2) ∈ strT := List.mem_of_getElem? (i := 7) rfl
theorem gstr_X8_71 : (RX8, 71, "stray", 3) ∈ strT := List.mem_of_getElem? (i := 8) rfl
theorem gstr_X8_73 : (RX8, 73, "seen", 4) ∈ strT := List.mem_of_getElem? (i := 9) rfl
theorem gstr_X4_146 : (RX4, 146, "at", 8) ∈ strT := List.mem_of_getElem? (i := 10) rfl
theorem gstr_X4_150 : (RX4, 150, "coins", 9) ∈ strT := List.mem_of_getElem? (i := 11) rfl
theorem gstr_X4_97 : (RX4, 97, "bird", 2) ∈ strT := List.mem_of_getElem? (i := 12) rfl
theorem gstr_X4_225 : (RX4, 225, "plain", 10) ∈ strT := List.mem_of_getElem? (i := 13) rfl
theorem gstr_X4_227 : (RX4, 227, "honest", 11) ∈ strT := List.mem_of_getElem? (i := 14) rfl
theorem gstr_X4_229 : (RX4, 229, "proud", 12) ∈ strT := List.mem_of_getElem? (i := 15) rfl
theorem gstr_X4_231 : (RX4, 231, "blind", 13) ∈ strT := List.mem_of_getElem? (i := 16) rfl
theorem gstr_X4_160 : (RX4, 160, "from", 14) ∈ strT := List.mem_of_getElem? (i := 17) rfl
theorem gstr_X4_170 : (RX4, 170, "to", 15) ∈ strT := List.mem_of_getElem? (i := 18) rfl
theorem gstr_X4_175 : (RX4, 175, "day", 16) ∈ strT := List.mem_of_getElem? (i := 19) rfl
theorem gstr_X4_180 : (RX4, 180, "wrong", 17) ∈ strT := List.mem_of_getElem? (i := 20) rfl
theorem gstr_X4_105 : (RX4, 105, "stray", 3) ∈ strT := List.mem_of_getElem? (i := 21) rfl
theorem gstr_X4_117 : (RX4, 117, "seen", 4) ∈ strT := List.mem_of_getElem? (i := 22) rfl
theorem gstr_X4_206 : (RX4, 206, "birds", 18) ∈ strT := List.mem_of_getElem? (i := 23) rfl
theorem gstr_X11_122 : (RX11, 122, "loft", 0) ∈ strT := List.mem_of_getElem? (i := 25) rfl
theorem gstr_X11_194 : (RX11, 194, "wings", 5) ∈ strT := List.mem_of_getElem? (i := 26) rfl
theorem gstr_X11_200 : (RX11, 200, "hawks", 6) ∈ strT := List.mem_of_getElem? (i := 27) rfl
theorem gstr_X11_202 : (RX11, 202, "storm", 7) ∈ strT := List.mem_of_getElem? (i := 28) rfl
theorem gstr_X11_124 : (RX11, 124, "house", 1) ∈ strT := List.mem_of_getElem? (i := 29) rfl
theorem gstr_X11_126 : (RX11, 126, "bird", 2) ∈ strT := List.mem_of_getElem? (i := 30) rfl
theorem gstr_X11_128 : (RX11, 128, "stray", 3) ∈ strT := List.mem_of_getElem? (i := 31) rfl
theorem gstr_X11_130 : (RX11, 130, "seen", 4) ∈ strT := List.mem_of_getElem? (i := 32) rfl
theorem gstr_X11_208 : (RX11, 208, "at", 8) ∈ strT := List.mem_of_getElem? (i := 33) rfl
theorem gstr_X11_209 : (RX11, 209, "coins", 9) ∈ strT := List.mem_of_getElem? (i := 34) rfl
theorem gstr_X11_211 : (RX11, 211, "plain", 10) ∈ strT := List.mem_of_getElem? (i := 35) rfl
theorem gstr_X11_213 : (RX11, 213, "honest", 11) ∈ strT := List.mem_of_getElem? (i := 36) rfl
theorem gstr_X11_215 : (RX11, 215, "proud", 12) ∈ strT := List.mem_of_getElem? (i := 37) rfl
theorem gstr_X11_217 : (RX11, 217, "blind", 13) ∈ strT := List.mem_of_getElem? (i := 38) rfl
theorem gstr_X11_219 : (RX11, 219, "from", 14) ∈ strT := List.mem_of_getElem? (i := 39) rfl
theorem gstr_X11_224 : (RX11, 224, "to", 15) ∈ strT := List.mem_of_getElem? (i := 40) rfl
theorem gstr_X11_226 : (RX11, 226, "day", 16) ∈ strT := List.mem_of_getElem? (i := 41) rfl
theorem gstr_X11_228 : (RX11, 228, "wrong", 17) ∈ strT := List.mem_of_getElem? (i := 42) rfl
theorem gstr_X11_229 : (RX11, 229, "birds", 18) ∈ strT := List.mem_of_getElem? (i := 43) rfl
def wdT (i : Nat) : Nat := wdN (fun k => (chN i k).toNat) (strL.getD i 0)
def tIs (B : Nat → Nat) (e p i : Nat) : Bool := decide (tSr B e p = 1) && decide (tWd B e p = wdT i)
def tNm (B : Nat → Nat) (e p : Nat) : Bool := decide (tSr B e p = 1) && !tIs B e p 0 && !tIs B e p 1 && !tIs B e p 2 && !tIs B e p 3 && !tIs B e p 4
theorem ch_lo : ∀ i, i < 19 → strL.getD i 0 ≤ 6 ∧ ∀ k, k < strL.getD i 0 → 97 ≤ chN i k ∧ chN i k ≤ 122 := by decide +kernel
theorem tSr_1 {B : Nat → Nat} {e p : Nat} (h : tSr B e p = 1) : tSo B e p = 1 ∧ tLn B e p ≤ 8 := by
  unfold tSr at h
  split at h <;> omega
theorem tSr_2 {B : Nat → Nat} {e p : Nat} (h : tSr B e p = 2) : tSo B e p = 2 ∧ tLn B e p ≤ 3 := by
  unfold tSr at h
  split at h <;> omega
theorem tSo_le (B : Nat → Nat) (e p : Nat) : tSo B e p ≤ 4 := by
  unfold tSo soB
  (repeat' split) <;> omega
theorem tSr_le (B : Nat → Nat) (e p : Nat) : tSr B e p ≤ 4 := by
  have := tSo_le B e p
  unfold tSr
  split <;> omega
theorem s_spells {h : gH} {B : Nat → Nat} {e p i : Nat} (hC : CTk h B e p) (hi : i < 19) : gSp 5 yX8_spells cX8_spells 5 (some .boolean) [.ref 2, .ref (1000 + i)] h (gR (.int (zI (bI (tIs B e p i)))) h) := by
  obtain ⟨hB, hp, h3, h4, h5, h7, h6⟩ := hC
  have hi20 : i < 20 := by omega
  obtain ⟨hl, hch⟩ := ch_lo i hi
  have hsr := tSr_le B e p
  have hwt : wdT i < 1099511627776 := wdN_8 _ (by omega)
  have hwd : tSr B e p = 1 → tWd B e p < 1099511627776 := fun q => wdN_8 _ (tSr_1 q).2
  refine gSp_of (by decide +kernel) (Nat.le_of_ble_eq_true rfl) ?_
  show gJ RX8 cX8_spells 5 (some .boolean) _ 0 [some (.ref 2), some (.ref (1000 + i)), none, none, none] [] _ _
  refine gj_aload_n (pc' := 1) dX8_spells_0 rfl rfl ?_
  refine gf_X8_39 (pc' := 4) dX8_spells_1 rfl (by first | rfl | assumption) rfl ?_
  rw [h5]
  refine gj_iconst (pc' := 5) dX8_spells_4 rfl ?_
  refine gj_icmp_eq (pc' := 8) (tgt := 10) dX8_spells_5 (by decide) rfl (by omega) (fun c5 => ?_) (fun c5 => ?_)
  · refine gj_lconst (pc' := 11) dX8_spells_10 rfl ?_
    show gJ _ _ _ _ _ _ _ (.long (zL 0) :: _) _ _
    refine gj_lstore_n (pc' := 12) dX8_spells_11 rfl (by decide) ?_
    refine gj_iconst (pc' := 13) dX8_spells_12 rfl ?_
    refine gj_istore (pc' := 15) dX8_spells_13 rfl (by decide) ?_
    refine gJ_wk (gJ_for (L := fun k => [some (.ref 2), some (.ref (1000 + i)), some (.long (zL (wdN (fun k => (chN i k).toNat) k : Nat))), none, some (.int (zI (k : Int)))]) (strL.getD i 0) (fun k hb_k ih_k => ?_) (0) (Nat.zero_le _)) ?_
    · have hlt := wdN_8 (fun k => (chN i k).toNat) (i := k) (by omega)
      have es : wdN (fun k => (chN i k).toNat) (k + 1) = wdN (fun k => (chN i k).toNat) k * 32 + (chN i k).toNat % 32 := rfl
      refine gj_iload (pc' := 17) dX8_spells_15 rfl rfl ?_
      refine gj_aload_n (pc' := 18) dX8_spells_17 rfl rfl ?_
      refine gr_X8_52 (pc' := 21) dX8_spells_18 rfl (s_strlen hi20) rfl hi20 (by decide) rfl (Nat.le_of_ble_eq_true rfl) ?_
      refine gj_icmp_ge (pc' := 24) (tgt := 45) dX8_spells_21 (by decide) rfl (by omega) (fun c21 => ?_) (fun c21 => ?_)
      · refine gj_lload_n (pc' := 46) dX8_spells_45 rfl rfl ?_
        refine gj_aload_n (pc' := 47) dX8_spells_46 rfl rfl ?_
        refine gf_X8_42 (pc' := 50) dX8_spells_47 rfl (by first | rfl | assumption) rfl ?_
        rw [h7 (by omega), show wdN (fun k => (chN i k).toNat) k = wdT i by unfold wdT; rw [show strL.getD i 0 = k by omega]]
        have hw2 := hwd (by omega)
        refine gj_lcmp (pc' := 51) dX8_spells_50 rfl (by omega) (by omega) ?_
        refine gj_if_ne (pc' := 54) (tgt := 58) dX8_spells_51 (by decide) rfl (by split <;> (try split) <;> omega) (fun c51 => ?_) (fun c51 => ?_)
        · refine gj_iconst (pc' := 59) dX8_spells_58 rfl ?_
          refine gj_zret rfl (by first | rfl | exact gnZ _ | assumption) dX8_spells_59 ?_
          by_cases q : tWd B e p = wdT i
          · have e2 : tIs B e p i = true := by unfold tIs; rw [decide_eq_true (by omega), decide_eq_true q]; rfl
            rw [q, if_neg (by omega), if_pos rfl] at c51
            first
            | exact absurd rfl c51
            | exact gR_t e2
          · have e2 : tIs B e p i = false := by unfold tIs; rw [decide_eq_false q, Bool.and_false]
            have c := c51
            split at c
            · first
              | exact gR_f e2
              | (exfalso; omega)
            · split at c
              · exfalso; omega
              · first
                | exact gR_f e2
                | (exfalso; omega)
        · refine gj_iconst (pc' := 55) dX8_spells_54 rfl ?_
          refine gj_goto (pc' := 59) dX8_spells_55 (by decide) ?_
          refine gj_zret rfl (by first | rfl | exact gnZ _ | assumption) dX8_spells_59 ?_
          by_cases q : tWd B e p = wdT i
          · have e2 : tIs B e p i = true := by unfold tIs; rw [decide_eq_true (by omega), decide_eq_true q]; rfl
            rw [q, if_neg (by omega), if_pos rfl] at c51
            first
            | exact absurd rfl c51
            | exact gR_t e2
          · have e2 : tIs B e p i = false := by unfold tIs; rw [decide_eq_false q, Bool.and_false]
            have c := c51
            split at c
            · first
              | exact gR_f e2
              | (exfalso; omega)
            · split at c
              · exfalso; omega
              · first
                | exact gR_f e2
                | (exfalso; omega)
      · refine gj_lload_n (pc' := 25) dX8_spells_24 rfl rfl ?_
        refine gj_iconst (pc' := 26) dX8_spells_25 rfl ?_
        refine gj_lshl (pc' := 27) dX8_spells_26 rfl ?_
        rw [lsh5 hlt]
        refine gj_aload_n (pc' := 28) dX8_spells_27 rfl rfl ?_
        refine gj_iload (pc' := 30) dX8_spells_28 rfl rfl ?_
        refine gr_X8_57 (pc' := 33) dX8_spells_30 rfl (s_charAt hi20 (by omega)) rfl hi20 (by decide) rfl (Nat.le_of_ble_eq_true rfl) ?_
        have hck := hch k (by omega)
        rw [show chN i k = (((chN i k).toNat : Nat) : Int) by omega]
        refine gj_bipush (pc' := 35) dX8_spells_33 rfl (by decide) ?_
        refine gj_iand (pc' := 36) dX8_spells_35 rfl ?_
        rw [an31 (by omega)]
        refine gj_i2l (pc' := 37) dX8_spells_36 rfl (by have := Nat.mod_lt (chN i k).toNat (show 32 > 0 by decide); omega) ?_
        refine gj_lor (pc' := 38) dX8_spells_37 rfl ?_
        rw [lor5 hlt (Nat.mod_lt _ (by decide)), ← es]
        refine gj_lstore_n (pc' := 39) dX8_spells_38 rfl (by decide) ?_
        refine gj_iinc (pc' := 42) dX8_spells_39 rfl rfl (by decide) ?_
        refine gj_goto (pc' := 15) dX8_spells_42 (by decide) ?_
        refine gJ_wk (ih_k (by omega)) ?_
        repeat' (first | exact True.intro | with_reducible exact rfl | refine And.intro ?_ ?_ | refine vI ?_ | refine vL ?_)
        all_goals omega
    · repeat' (first | exact True.intro | with_reducible exact rfl | refine And.intro ?_ ?_ | refine vI ?_ | refine vL ?_)
      all_goals first | rfl | omega
  · refine gj_iconst (pc' := 9) dX8_spells_8 rfl ?_
    refine gj_zret rfl (by first | rfl | exact gnZ _ | assumption) dX8_spells_9 ?_
    exact gR_f (by unfold tIs; rw [decide_eq_false (by omega)]; rfl)
theorem tNm_f0 {B : Nat → Nat} {e p : Nat} (h : tIs B e p 0 = true) : tNm B e p = false := by
  unfold tNm
  rw [h]
  simp
theorem tNm_f1 {B : Nat → Nat} {e p : Nat} (h : tIs B e p 1 = true) : tNm B e p = false := by
  unfold tNm
  rw [h]
  simp
theorem tNm_f2 {B : Nat → Nat} {e p : Nat} (h : tIs B e p 2 = true) : tNm B e p = false := by
  unfold tNm
  rw [h]
  simp
theorem tNm_f3 {B : Nat → Nat} {e p : Nat} (h : tIs B e p 3 = true) : tNm B e p = false := by
  unfold tNm
  rw [h]
  simp
theorem tNm_f4 {B : Nat → Nat} {e p : Nat} (h : tIs B e p 4 = true) : tNm B e p = false := by
  unfold tNm
  rw [h]
  simp
theorem s_isName {h : gH} {B : Nat → Nat} {e p : Nat} (hC : CTk h B e p) : gSp 6 yX8_isName cX8_isName 1 (some .boolean) [.ref 2] h (gR (.int (zI (bI (tNm B e p)))) h) := by
  have hsr := tSr_le B e p
  have h5 := hC.2.2.2.2.1
  refine gSp_of (by decide +kernel) (Nat.le_of_ble_eq_true rfl) ?_
  show gJ RX8 cX8_isName 1 (some .boolean) _ 0 [some (.ref 2)] [] _ _
  refine gj_aload_n (pc' := 1) dX8_isName_0 rfl rfl ?_
  refine gf_X8_39 (pc' := 4) dX8_isName_1 rfl (by first | rfl | assumption) rfl ?_
  rw [h5]
  refine gj_iconst (pc' := 5) dX8_isName_4 rfl ?_
  refine gj_icmp_ne (pc' := 8) (tgt := 57) dX8_isName_5 (by decide) rfl (by omega) (fun c5 => ?_) (fun c5 => ?_)
  · refine gj_iconst (pc' := 58) dX8_isName_57 rfl ?_
    refine gj_zret rfl (by first | rfl | exact gnZ _ | assumption) dX8_isName_58 ?_
    first
    | exact gR_f (by unfold tNm; rw [decide_eq_false (by omega)]; rfl)
    | exact gR_f (tNm_f0 c14)
    | exact gR_f (tNm_f1 c23)
    | exact gR_f (tNm_f2 c32)
    | exact gR_f (tNm_f3 c41)
    | exact gR_f (tNm_f4 c50)
    | exact gR_t (by unfold tNm; rw [decide_eq_true (by omega), c14, c23, c32, c41, c50]; rfl)
  · refine gj_aload_n (pc' := 9) dX8_isName_8 rfl rfl ?_
    refine gj_ldcS (pc' := 11) dX8_isName_9 rfl (gstr_X8_61) ?_
    refine gr_X8_63 (pc' := 14) dX8_isName_11 rfl (s_spells (i := 0) hC (by decide)) rfl (by first | rfl | assumption) (by decide) rfl (Nat.le_of_ble_eq_true rfl) ?_
    first | refine gj_ifB_ne (pc' := 17) (tgt := 57) dX8_isName_14 (by decide) rfl (fun c14 => ?_) (fun c14 => ?_) | refine gj_if_ne (pc' := 17) (tgt := 57) dX8_isName_14 (by decide) rfl (by omega) (fun c14 => ?_) (fun c14 => ?_)
    · refine gj_iconst (pc' := 58) dX8_isName_57 rfl ?_
      refine gj_zret rfl (by first | rfl | exact gnZ _ | assumption) dX8_isName_58 ?_
      first
      | exact gR_f (by unfold tNm; rw [decide_eq_false (by omega)]; rfl)
      | exact gR_f (tNm_f0 c14)
      | exact gR_f (tNm_f1 c23)
      | exact gR_f (tNm_f2 c32)
      | exact gR_f (tNm_f3 c41)
      | exact gR_f (tNm_f4 c50)
      | exact gR_t (by unfold tNm; rw [decide_eq_true (by omega), c14, c23, c32, c41, c50]; rfl)
    · refine gj_aload_n (pc' := 18) dX8_isName_17 rfl rfl ?_
      refine gj_ldcS (pc' := 20) dX8_isName_18 rfl (gstr_X8_67) ?_
      refine gr_X8_63 (pc' := 23) dX8_isName_20 rfl (s_spells (i := 1) hC (by decide)) rfl (by first | rfl | assumption) (by decide) rfl (Nat.le_of_ble_eq_true rfl) ?_
      first | refine gj_ifB_ne (pc' := 26) (tgt := 57) dX8_isName_23 (by decide) rfl (fun c23 => ?_) (fun c23 => ?_) | refine gj_if_ne (pc' := 26) (tgt := 57) dX8_isName_23 (by decide) rfl (by omega) (fun c23 => ?_) (fun c23 => ?_)
      · refine gj_iconst (pc' := 58) dX8_isName_57 rfl ?_
        refine gj_zret rfl (by first | rfl | exact gnZ _ | assumption) dX8_isName_58 ?_
        first
        | exact gR_f (by unfold tNm; rw [decide_eq_false (by omega)]; rfl)
        | exact gR_f (tNm_f0 c14)
        | exact gR_f (tNm_f1 c23)
        | exact gR_f (tNm_f2 c32)
        | exact gR_f (tNm_f3 c41)
        | exact gR_f (tNm_f4 c50)
        | exact gR_t (by unfold tNm; rw [decide_eq_true (by omega), c14, c23, c32, c41, c50]; rfl)
      · refine gj_aload_n (pc' := 27) dX8_isName_26 rfl rfl ?_
        refine gj_ldcS (pc' := 29) dX8_isName_27 rfl (gstr_X8_69) ?_
        refine gr_X8_63 (pc' := 32) dX8_isName_29 rfl (s_spells (i := 2) hC (by decide)) rfl (by first | rfl | assumption) (by decide) rfl (Nat.le_of_ble_eq_true rfl) ?_
        first | refine gj_ifB_ne (pc' := 35) (tgt := 57) dX8_isName_32 (by decide) rfl (fun c32 => ?_) (fun c32 => ?_) | refine gj_if_ne (pc' := 35) (tgt := 57) dX8_isName_32 (by decide) rfl (by omega) (fun c32 => ?_) (fun c32 => ?_)
        · refine gj_iconst (pc' := 58) dX8_isName_57 rfl ?_
          refine gj_zret rfl (by first | rfl | exact gnZ _ | assumption) dX8_isName_58 ?_
          first
          | exact gR_f (by unfold tNm; rw [decide_eq_false (by omega)]; rfl)
          | exact gR_f (tNm_f0 c14)
          | exact gR_f (tNm_f1 c23)
          | exact gR_f (tNm_f2 c32)
          | exact gR_f (tNm_f3 c41)
          | exact gR_f (tNm_f4 c50)
          | exact gR_t (by unfold tNm; rw [decide_eq_true (by omega), c14, c23, c32, c41, c50]; rfl)
        · refine gj_aload_n (pc' := 36) dX8_isName_35 rfl rfl ?_
          refine gj_ldcS (pc' := 38) dX8_isName_36 rfl (gstr_X8_71) ?_
          refine gr_X8_63 (pc' := 41) dX8_isName_38 rfl (s_spells (i := 3) hC (by decide)) rfl (by first | rfl | assumption) (by decide) rfl (Nat.le_of_ble_eq_true rfl) ?_
          first | refine gj_ifB_ne (pc' := 44) (tgt := 57) dX8_isName_41 (by decide) rfl (fun c41 => ?_) (fun c41 => ?_) | refine gj_if_ne (pc' := 44) (tgt := 57) dX8_isName_41 (by decide) rfl (by omega) (fun c41 => ?_) (fun c41 => ?_)
          · refine gj_iconst (pc' := 58) dX8_isName_57 rfl ?_
            refine gj_zret rfl (by first | rfl | exact gnZ _ | assumption) dX8_isName_58 ?_
            first
            | exact gR_f (by unfold tNm; rw [decide_eq_false (by omega)]; rfl)
            | exact gR_f (tNm_f0 c14)
            | exact gR_f (tNm_f1 c23)
            | exact gR_f (tNm_f2 c32)
            | exact gR_f (tNm_f3 c41)
            | exact gR_f (tNm_f4 c50)
            | exact gR_t (by unfold tNm; rw [decide_eq_true (by omega), c14, c23, c32, c41, c50]; rfl)
          · refine gj_aload_n (pc' := 45) dX8_isName_44 rfl rfl ?_
            refine gj_ldcS (pc' := 47) dX8_isName_45 rfl (gstr_X8_73) ?_
            refine gr_X8_63 (pc' := 50) dX8_isName_47 rfl (s_spells (i := 4) hC (by decide)) rfl (by first | rfl | assumption) (by decide) rfl (Nat.le_of_ble_eq_true rfl) ?_
            first | refine gj_ifB_ne (pc' := 53) (tgt := 57) dX8_isName_50 (by decide) rfl (fun c50 => ?_) (fun c50 => ?_) | refine gj_if_ne (pc' := 53) (tgt := 57) dX8_isName_50 (by decide) rfl (by omega) (fun c50 => ?_) (fun c50 => ?_)
            · refine gj_iconst (pc' := 58) dX8_isName_57 rfl ?_
              refine gj_zret rfl (by first | rfl | exact gnZ _ | assumption) dX8_isName_58 ?_
              first
              | exact gR_f (by unfold tNm; rw [decide_eq_false (by omega)]; rfl)
              | exact gR_f (tNm_f0 c14)
              | exact gR_f (tNm_f1 c23)
              | exact gR_f (tNm_f2 c32)
              | exact gR_f (tNm_f3 c41)
              | exact gR_f (tNm_f4 c50)
              | exact gR_t (by unfold tNm; rw [decide_eq_true (by omega), c14, c23, c32, c41, c50]; rfl)
            · refine gj_iconst (pc' := 54) dX8_isName_53 rfl ?_
              refine gj_goto (pc' := 58) dX8_isName_54 (by decide) ?_
              refine gj_zret rfl (by first | rfl | exact gnZ _ | assumption) dX8_isName_58 ?_
              first
              | exact gR_f (by unfold tNm; rw [decide_eq_false (by omega)]; rfl)
              | exact gR_f (tNm_f0 c14)
              | exact gR_f (tNm_f1 c23)
              | exact gR_f (tNm_f2 c32)
              | exact gR_f (tNm_f3 c41)
              | exact gR_f (tNm_f4 c50)
              | exact gR_t (by unfold tNm; rw [decide_eq_true (by omega), c14, c23, c32, c41, c50]; rfl)
