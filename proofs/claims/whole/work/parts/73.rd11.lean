/-! the class's Reader: a line -/
theorem ptY_0 {B : Nat → Nat} {e a b p : Nat} {T : Nat → Nat} (g : (ptY B e T a b p).1 = 0) : a < b ∧ T 0 ≠ 0 := by
  have hr : ptY B e T a b p = if T 0 = 0 then (6, tS B e p, 0) else if a < b then (0, 0, p) else (5, tS B e p, 0) := rfl
  by_cases q : T 0 = 0
  · rw [if_pos q] at hr
    rw [hr] at g
    exact absurd (show (6 : Nat) = 0 from g) (by decide)
  · rw [if_neg q] at hr
    by_cases q2 : a < b
    · exact ⟨q2, q⟩
    · rw [if_neg q2] at hr
      rw [hr] at g
      exact absurd (show (5 : Nat) = 0 from g) (by decide)
theorem lnQ_b {h h' : gH} {B : Nat → Nat} {e t : Nat} {r : Nat × Nat × (Nat → Nat)} {v : Option Value} {b : Bool} (q : lnQ h B e t r v h') (c : decide (r.1 = 0) = b) : lnQ h B e t r (some (.int (zI (bI b)))) h' := by
  obtain ⟨-, q1⟩ := q
  exact ⟨by rw [c], q1⟩
def ptL (B : Nat → Nat) (e : Nat) (T : Nat → Nat) (p : Nat) : Nat × Nat × (Nat → Nat) := if tIs B e p 0 = true then (if T 0 ≠ 0 then (3, tS B e p, fun _ => 0) else lnL B e T p) else if tIs B e p 1 = true then bd (ptY B e T (T 3) 6 p) (fun _ _ => lnH B e T p) else if tIs B e p 2 = true then bd (ptY B e T (T 4) 7 p) (fun _ _ => lnB B e T p) else if tIs B e p 3 = true then bd (ptY B e T (T 5) 3 p) (fun _ _ => lnS B e T p) else if tIs B e p 4 = true then bd (ptY B e T (T 6) 5 p) (fun _ _ => lnK B e T p) else (1, tS B e p, fun _ => 0)
theorem s_readLine {h : gH} {B : Nat → Nat} {e p t : Nat} {T : Nat → Nat} (ht : isT t) (hI : LI h B e p t T) : gSp 11 yX4_readLine cX4_readLine 1 (some .boolean) [.ref 1] h (lnQ h B e t (ptL B e T p)) := by
  obtain ⟨hC, -, -, hTA, hSA, hD, hL, hTL⟩ := id hI
  obtain ⟨t0, -⟩ := shT ht
  obtain ⟨s0, -⟩ := shS ht
  have htt : t = 6 ∨ t = 29 := ht
  obtain ⟨⟨l0, l1, l2, l3, l4, l5, l6⟩, -⟩ := id hTL
  have hr : ptL B e T p = if tIs B e p 0 = true then (if T 0 ≠ 0 then (3, tS B e p, fun _ => 0) else lnL B e T p) else if tIs B e p 1 = true then bd (ptY B e T (T 3) 6 p) (fun _ _ => lnH B e T p) else if tIs B e p 2 = true then bd (ptY B e T (T 4) 7 p) (fun _ _ => lnB B e T p) else if tIs B e p 3 = true then bd (ptY B e T (T 5) 3 p) (fun _ _ => lnS B e T p) else if tIs B e p 4 = true then bd (ptY B e T (T 6) 5 p) (fun _ _ => lnK B e T p) else (1, tS B e p, fun _ => 0) := rfl
  refine gSp_of (by decide +kernel) (Nat.le_of_ble_eq_true rfl) ?_
  show gJ RX4 cX4_readLine 1 (some .boolean) _ 0 [some (.ref 1)] [] _ _
  refine gj_aload_n (pc' := 1) dX4_readLine_0 rfl rfl ?_
  refine gf_X4_16 (pc' := 4) dX4_readLine_1 rfl (by first | rfl | assumption) rfl ?_
  refine gj_ldcS (pc' := 6) dX4_readLine_4 rfl (gstr_X4_79) ?_
  refine gr_X4_81 (pc' := 9) dX4_readLine_6 rfl (s_spells (i := 0) hC (by decide)) rfl (by first | rfl | assumption) (by decide) rfl (Nat.le_of_ble_eq_true rfl) ?_
  first | refine gj_ifB_eq (pc' := 12) (tgt := 32) dX4_readLine_9 (by decide) rfl (fun c9 => ?_) (fun c9 => ?_) | refine gj_if_eq (pc' := 12) (tgt := 32) dX4_readLine_9 (by decide) rfl (by omega) (fun c9 => ?_) (fun c9 => ?_)
  · first | have g9 := of_decide_eq_true c9 | have g9 := of_decide_eq_false c9 | skip
    refine gj_aload_n (pc' := 33) dX4_readLine_32 rfl rfl ?_
    refine gf_X4_16 (pc' := 36) dX4_readLine_33 rfl (by first | rfl | assumption) rfl ?_
    refine gj_ldcS (pc' := 38) dX4_readLine_36 rfl (gstr_X4_88) ?_
    refine gr_X4_81 (pc' := 41) dX4_readLine_38 rfl (s_spells (i := 1) hC (by decide)) rfl (by first | rfl | assumption) (by decide) rfl (Nat.le_of_ble_eq_true rfl) ?_
    first | refine gj_ifB_eq (pc' := 44) (tgt := 73) dX4_readLine_41 (by decide) rfl (fun c41 => ?_) (fun c41 => ?_) | refine gj_if_eq (pc' := 44) (tgt := 73) dX4_readLine_41 (by decide) rfl (by omega) (fun c41 => ?_) (fun c41 => ?_)
    · first | have g41 := of_decide_eq_true c41 | have g41 := of_decide_eq_false c41 | skip
      refine gj_aload_n (pc' := 74) dX4_readLine_73 rfl rfl ?_
      refine gf_X4_16 (pc' := 77) dX4_readLine_74 rfl (by first | rfl | assumption) rfl ?_
      refine gj_ldcS (pc' := 79) dX4_readLine_77 rfl (gstr_X4_97) ?_
      refine gr_X4_81 (pc' := 82) dX4_readLine_79 rfl (s_spells (i := 2) hC (by decide)) rfl (by first | rfl | assumption) (by decide) rfl (Nat.le_of_ble_eq_true rfl) ?_
      first | refine gj_ifB_eq (pc' := 85) (tgt := 114) dX4_readLine_82 (by decide) rfl (fun c82 => ?_) (fun c82 => ?_) | refine gj_if_eq (pc' := 85) (tgt := 114) dX4_readLine_82 (by decide) rfl (by omega) (fun c82 => ?_) (fun c82 => ?_)
      · first | have g82 := of_decide_eq_true c82 | have g82 := of_decide_eq_false c82 | skip
        refine gj_aload_n (pc' := 115) dX4_readLine_114 rfl rfl ?_
        refine gf_X4_16 (pc' := 118) dX4_readLine_115 rfl (by first | rfl | assumption) rfl ?_
        refine gj_ldcS (pc' := 120) dX4_readLine_118 rfl (gstr_X4_105) ?_
        refine gr_X4_81 (pc' := 123) dX4_readLine_120 rfl (s_spells (i := 3) hC (by decide)) rfl (by first | rfl | assumption) (by decide) rfl (Nat.le_of_ble_eq_true rfl) ?_
        first | refine gj_ifB_eq (pc' := 126) (tgt := 157) dX4_readLine_123 (by decide) rfl (fun c123 => ?_) (fun c123 => ?_) | refine gj_if_eq (pc' := 126) (tgt := 157) dX4_readLine_123 (by decide) rfl (by omega) (fun c123 => ?_) (fun c123 => ?_)
        · first | have g123 := of_decide_eq_true c123 | have g123 := of_decide_eq_false c123 | skip
          refine gj_aload_n (pc' := 158) dX4_readLine_157 rfl rfl ?_
          refine gf_X4_16 (pc' := 161) dX4_readLine_158 rfl (by first | rfl | assumption) rfl ?_
          refine gj_ldcS (pc' := 163) dX4_readLine_161 rfl (gstr_X4_117) ?_
          refine gr_X4_81 (pc' := 166) dX4_readLine_163 rfl (s_spells (i := 4) hC (by decide)) rfl (by first | rfl | assumption) (by decide) rfl (Nat.le_of_ble_eq_true rfl) ?_
          first | refine gj_ifB_eq (pc' := 169) (tgt := 200) dX4_readLine_166 (by decide) rfl (fun c166 => ?_) (fun c166 => ?_) | refine gj_if_eq (pc' := 169) (tgt := 200) dX4_readLine_166 (by decide) rfl (by omega) (fun c166 => ?_) (fun c166 => ?_)
          · first | have g166 := of_decide_eq_true c166 | have g166 := of_decide_eq_false c166 | skip
            rw [c9, if_neg Bool.false_ne_true, c41, if_neg Bool.false_ne_true, c82, if_neg Bool.false_ne_true, c123, if_neg Bool.false_ne_true, c166, if_neg Bool.false_ne_true] at hr
            refine gj_aload_n (pc' := 201) dX4_readLine_200 rfl rfl ?_
            refine gj_iconst (pc' := 202) dX4_readLine_201 rfl ?_
            refine gc_X4_66 (pc' := 205) dX4_readLine_202 rfl (s_fail (k := 1) hC.2.2.1) rfl (by first | rfl | assumption) (by decide) rfl (Nat.le_of_ble_eq_true rfl) (fun v9 h9 q9 => ?_)
            obtain ⟨rfl, q1, q2, q3⟩ := q9
            show gJ _ _ _ _ _ _ _ [.int (zI 0)] _ _
            refine gj_zret rfl (by first | rfl | exact gnZ _ | assumption) dX4_readLine_205 ?_
            rw [hr]
            exact ⟨rfl, q1.fr t, fun z => absurd (show (1 : Nat) = 0 from z) (by decide), fun _ => ⟨q2, q3⟩⟩
          · first | have g166 := of_decide_eq_true c166 | have g166 := of_decide_eq_false c166 | skip
            rw [c9, if_neg Bool.false_ne_true, c41, if_neg Bool.false_ne_true, c82, if_neg Bool.false_ne_true, c123, if_neg Bool.false_ne_true, c166, if_pos rfl] at hr
            refine gj_aload_n (pc' := 170) dX4_readLine_169 rfl rfl ?_
            refine gj_aload_n (pc' := 171) dX4_readLine_170 rfl rfl ?_
            refine gf_X4_31 (pc' := 174) dX4_readLine_171 rfl (by first | rfl | assumption) rfl ?_
            rw [hD]
            refine gf_X4_107 (pc' := 177) dX4_readLine_174 rfl (by first | rfl | assumption) rfl ?_
            refine gf_X4_119 (pc' := 180) dX4_readLine_177 rfl (by first | rfl | assumption) rfl ?_
            rw [hSA.2.1]
            refine gj_iconst (pc' := 181) dX4_readLine_180 rfl ?_
            refine gc_X4_90 (pc' := 184) dX4_readLine_181 rfl (s_mayTell (a := T 6) (b := 5) hC hL (by omega)) rfl (by first | rfl | assumption) (by decide) rfl (Nat.le_of_ble_eq_true rfl) (fun v9 h9 q9 => ?_)
            obtain ⟨rfl, m1, m2, m3⟩ := q9
            obtain ⟨hb, rfl⟩ : ∃ x, x = h9 := ⟨h9, rfl⟩
            show gJ _ _ _ _ _ _ _ [.int (zI (bI _))] _ _
            first | refine gj_ifB_eq (pc' := 187) (tgt := 198) dX4_readLine_184 (by decide) rfl (fun c184 => ?_) (fun c184 => ?_) | refine gj_if_eq (pc' := 187) (tgt := 198) dX4_readLine_184 (by decide) rfl (by omega) (fun c184 => ?_) (fun c184 => ?_)
            · first | have g184 := of_decide_eq_true c184 | have g184 := of_decide_eq_false c184 | skip
              refine gj_iconst (pc' := 199) dX4_readLine_198 rfl ?_
              refine gj_zret rfl (by first | rfl | exact gnZ _ | assumption) dX4_readLine_199 ?_
              rw [hr]
              first
              | exact lnQ_1 g184 (m1.fr t) m3
              | exact lnQ_b hq c191
            · first | have g184 := of_decide_eq_true c184 | have g184 := of_decide_eq_false c184 | skip
              rw [bd_0 g184] at hr
              rw [m2 g184]
              refine gj_aload_n (pc' := 188) dX4_readLine_187 rfl rfl ?_
              refine gc_X4_121 (pc' := 191) dX4_readLine_188 rfl (s_readSeen ht hI (ptY_0 g184).1) rfl (by first | rfl | assumption) (by decide) rfl (Nat.le_of_ble_eq_true rfl) (fun v9 h9 q9 => ?_)
              have hq := q9
              obtain ⟨rfl, -⟩ := q9
              show gJ _ _ _ _ _ _ _ [.int (zI (bI _))] _ _
              first | refine gj_ifB_eq (pc' := 194) (tgt := 198) dX4_readLine_191 (by decide) rfl (fun c191 => ?_) (fun c191 => ?_) | refine gj_if_eq (pc' := 194) (tgt := 198) dX4_readLine_191 (by decide) rfl (by omega) (fun c191 => ?_) (fun c191 => ?_)
              · first | have g191 := of_decide_eq_true c191 | have g191 := of_decide_eq_false c191 | skip
                refine gj_iconst (pc' := 199) dX4_readLine_198 rfl ?_
                refine gj_zret rfl (by first | rfl | exact gnZ _ | assumption) dX4_readLine_199 ?_
                rw [hr]
                first
                | exact lnQ_1 g184 (m1.fr t) m3
                | exact lnQ_b hq c191
              · first | have g191 := of_decide_eq_true c191 | have g191 := of_decide_eq_false c191 | skip
                refine gj_iconst (pc' := 195) dX4_readLine_194 rfl ?_
                refine gj_goto (pc' := 199) dX4_readLine_195 (by decide) ?_
                refine gj_zret rfl (by first | rfl | exact gnZ _ | assumption) dX4_readLine_199 ?_
                rw [hr]
                first
                | exact lnQ_1 g184 (m1.fr t) m3
                | exact lnQ_b hq c191
        · first | have g123 := of_decide_eq_true c123 | have g123 := of_decide_eq_false c123 | skip
          rw [c9, if_neg Bool.false_ne_true, c41, if_neg Bool.false_ne_true, c82, if_neg Bool.false_ne_true, c123, if_pos rfl] at hr
          refine gj_aload_n (pc' := 127) dX4_readLine_126 rfl rfl ?_
          refine gj_aload_n (pc' := 128) dX4_readLine_127 rfl rfl ?_
          refine gf_X4_31 (pc' := 131) dX4_readLine_128 rfl (by first | rfl | assumption) rfl ?_
          rw [hD]
          refine gf_X4_107 (pc' := 134) dX4_readLine_131 rfl (by first | rfl | assumption) rfl ?_
          refine gf_X4_111 (pc' := 137) dX4_readLine_134 rfl (by first | rfl | assumption) rfl ?_
          rw [hSA.1]
          refine gj_iconst (pc' := 138) dX4_readLine_137 rfl ?_
          refine gc_X4_90 (pc' := 141) dX4_readLine_138 rfl (s_mayTell (a := T 5) (b := 3) hC hL (by omega)) rfl (by first | rfl | assumption) (by decide) rfl (Nat.le_of_ble_eq_true rfl) (fun v9 h9 q9 => ?_)
          obtain ⟨rfl, m1, m2, m3⟩ := q9
          obtain ⟨hb, rfl⟩ : ∃ x, x = h9 := ⟨h9, rfl⟩
          show gJ _ _ _ _ _ _ _ [.int (zI (bI _))] _ _
          first | refine gj_ifB_eq (pc' := 144) (tgt := 155) dX4_readLine_141 (by decide) rfl (fun c141 => ?_) (fun c141 => ?_) | refine gj_if_eq (pc' := 144) (tgt := 155) dX4_readLine_141 (by decide) rfl (by omega) (fun c141 => ?_) (fun c141 => ?_)
          · first | have g141 := of_decide_eq_true c141 | have g141 := of_decide_eq_false c141 | skip
            refine gj_iconst (pc' := 156) dX4_readLine_155 rfl ?_
            refine gj_zret rfl (by first | rfl | exact gnZ _ | assumption) dX4_readLine_156 ?_
            rw [hr]
            first
            | exact lnQ_1 g141 (m1.fr t) m3
            | exact lnQ_b hq c148
          · first | have g141 := of_decide_eq_true c141 | have g141 := of_decide_eq_false c141 | skip
            rw [bd_0 g141] at hr
            rw [m2 g141]
            refine gj_aload_n (pc' := 145) dX4_readLine_144 rfl rfl ?_
            refine gc_X4_114 (pc' := 148) dX4_readLine_145 rfl (s_readStray ht hI (ptY_0 g141).1) rfl (by first | rfl | assumption) (by decide) rfl (Nat.le_of_ble_eq_true rfl) (fun v9 h9 q9 => ?_)
            have hq := q9
            obtain ⟨rfl, -⟩ := q9
            show gJ _ _ _ _ _ _ _ [.int (zI (bI _))] _ _
            first | refine gj_ifB_eq (pc' := 151) (tgt := 155) dX4_readLine_148 (by decide) rfl (fun c148 => ?_) (fun c148 => ?_) | refine gj_if_eq (pc' := 151) (tgt := 155) dX4_readLine_148 (by decide) rfl (by omega) (fun c148 => ?_) (fun c148 => ?_)
            · first | have g148 := of_decide_eq_true c148 | have g148 := of_decide_eq_false c148 | skip
              refine gj_iconst (pc' := 156) dX4_readLine_155 rfl ?_
              refine gj_zret rfl (by first | rfl | exact gnZ _ | assumption) dX4_readLine_156 ?_
              rw [hr]
              first
              | exact lnQ_1 g141 (m1.fr t) m3
              | exact lnQ_b hq c148
            · first | have g148 := of_decide_eq_true c148 | have g148 := of_decide_eq_false c148 | skip
              refine gj_iconst (pc' := 152) dX4_readLine_151 rfl ?_
              refine gj_goto (pc' := 156) dX4_readLine_152 (by decide) ?_
              refine gj_zret rfl (by first | rfl | exact gnZ _ | assumption) dX4_readLine_156 ?_
              rw [hr]
              first
              | exact lnQ_1 g141 (m1.fr t) m3
              | exact lnQ_b hq c148
      · first | have g82 := of_decide_eq_true c82 | have g82 := of_decide_eq_false c82 | skip
        rw [c9, if_neg Bool.false_ne_true, c41, if_neg Bool.false_ne_true, c82, if_pos rfl] at hr
        refine gj_aload_n (pc' := 86) dX4_readLine_85 rfl rfl ?_
        refine gj_aload_n (pc' := 87) dX4_readLine_86 rfl rfl ?_
        refine gf_X4_31 (pc' := 90) dX4_readLine_87 rfl (by first | rfl | assumption) rfl ?_
        rw [hD]
        refine gf_X4_99 (pc' := 93) dX4_readLine_90 rfl (by first | rfl | assumption) rfl ?_
        rw [hTA.1 4 (by decide)]
        refine gj_bipush (pc' := 95) dX4_readLine_93 rfl (by decide) ?_
        refine gc_X4_90 (pc' := 98) dX4_readLine_95 rfl (s_mayTell (a := T 4) (b := 7) hC hL (by omega)) rfl (by first | rfl | assumption) (by decide) rfl (Nat.le_of_ble_eq_true rfl) (fun v9 h9 q9 => ?_)
        obtain ⟨rfl, m1, m2, m3⟩ := q9
        obtain ⟨hb, rfl⟩ : ∃ x, x = h9 := ⟨h9, rfl⟩
        show gJ _ _ _ _ _ _ _ [.int (zI (bI _))] _ _
        first | refine gj_ifB_eq (pc' := 101) (tgt := 112) dX4_readLine_98 (by decide) rfl (fun c98 => ?_) (fun c98 => ?_) | refine gj_if_eq (pc' := 101) (tgt := 112) dX4_readLine_98 (by decide) rfl (by omega) (fun c98 => ?_) (fun c98 => ?_)
        · first | have g98 := of_decide_eq_true c98 | have g98 := of_decide_eq_false c98 | skip
          refine gj_iconst (pc' := 113) dX4_readLine_112 rfl ?_
          refine gj_zret rfl (by first | rfl | exact gnZ _ | assumption) dX4_readLine_113 ?_
          rw [hr]
          first
          | exact lnQ_1 g98 (m1.fr t) m3
          | exact lnQ_b hq c105
        · first | have g98 := of_decide_eq_true c98 | have g98 := of_decide_eq_false c98 | skip
          rw [bd_0 g98] at hr
          rw [m2 g98]
          refine gj_aload_n (pc' := 102) dX4_readLine_101 rfl rfl ?_
          refine gc_X4_102 (pc' := 105) dX4_readLine_102 rfl (s_readBird ht hI (ptY_0 g98).1) rfl (by first | rfl | assumption) (by decide) rfl (Nat.le_of_ble_eq_true rfl) (fun v9 h9 q9 => ?_)
          have hq := q9
          obtain ⟨rfl, -⟩ := q9
          show gJ _ _ _ _ _ _ _ [.int (zI (bI _))] _ _
          first | refine gj_ifB_eq (pc' := 108) (tgt := 112) dX4_readLine_105 (by decide) rfl (fun c105 => ?_) (fun c105 => ?_) | refine gj_if_eq (pc' := 108) (tgt := 112) dX4_readLine_105 (by decide) rfl (by omega) (fun c105 => ?_) (fun c105 => ?_)
          · first | have g105 := of_decide_eq_true c105 | have g105 := of_decide_eq_false c105 | skip
            refine gj_iconst (pc' := 113) dX4_readLine_112 rfl ?_
            refine gj_zret rfl (by first | rfl | exact gnZ _ | assumption) dX4_readLine_113 ?_
            rw [hr]
            first
            | exact lnQ_1 g98 (m1.fr t) m3
            | exact lnQ_b hq c105
          · first | have g105 := of_decide_eq_true c105 | have g105 := of_decide_eq_false c105 | skip
            refine gj_iconst (pc' := 109) dX4_readLine_108 rfl ?_
            refine gj_goto (pc' := 113) dX4_readLine_109 (by decide) ?_
            refine gj_zret rfl (by first | rfl | exact gnZ _ | assumption) dX4_readLine_113 ?_
            rw [hr]
            first
            | exact lnQ_1 g98 (m1.fr t) m3
            | exact lnQ_b hq c105
    · first | have g41 := of_decide_eq_true c41 | have g41 := of_decide_eq_false c41 | skip
      rw [c9, if_neg Bool.false_ne_true, c41, if_pos rfl] at hr
      refine gj_aload_n (pc' := 45) dX4_readLine_44 rfl rfl ?_
      refine gj_aload_n (pc' := 46) dX4_readLine_45 rfl rfl ?_
      refine gf_X4_31 (pc' := 49) dX4_readLine_46 rfl (by first | rfl | assumption) rfl ?_
      rw [hD]
      refine gf_X4_70 (pc' := 52) dX4_readLine_49 rfl (by first | rfl | assumption) rfl ?_
      rw [hTA.1 3 (by decide)]
      refine gj_bipush (pc' := 54) dX4_readLine_52 rfl (by decide) ?_
      refine gc_X4_90 (pc' := 57) dX4_readLine_54 rfl (s_mayTell (a := T 3) (b := 6) hC hL (by omega)) rfl (by first | rfl | assumption) (by decide) rfl (Nat.le_of_ble_eq_true rfl) (fun v9 h9 q9 => ?_)
      obtain ⟨rfl, m1, m2, m3⟩ := q9
      obtain ⟨hb, rfl⟩ : ∃ x, x = h9 := ⟨h9, rfl⟩
      show gJ _ _ _ _ _ _ _ [.int (zI (bI _))] _ _
      first | refine gj_ifB_eq (pc' := 60) (tgt := 71) dX4_readLine_57 (by decide) rfl (fun c57 => ?_) (fun c57 => ?_) | refine gj_if_eq (pc' := 60) (tgt := 71) dX4_readLine_57 (by decide) rfl (by omega) (fun c57 => ?_) (fun c57 => ?_)
      · first | have g57 := of_decide_eq_true c57 | have g57 := of_decide_eq_false c57 | skip
        refine gj_iconst (pc' := 72) dX4_readLine_71 rfl ?_
        refine gj_zret rfl (by first | rfl | exact gnZ _ | assumption) dX4_readLine_72 ?_
        rw [hr]
        first
        | exact lnQ_1 g57 (m1.fr t) m3
        | exact lnQ_b hq c64
      · first | have g57 := of_decide_eq_true c57 | have g57 := of_decide_eq_false c57 | skip
        rw [bd_0 g57] at hr
        rw [m2 g57]
        refine gj_aload_n (pc' := 61) dX4_readLine_60 rfl rfl ?_
        refine gc_X4_94 (pc' := 64) dX4_readLine_61 rfl (s_readHouse ht hI (ptY_0 g57).1) rfl (by first | rfl | assumption) (by decide) rfl (Nat.le_of_ble_eq_true rfl) (fun v9 h9 q9 => ?_)
        have hq := q9
        obtain ⟨rfl, -⟩ := q9
        show gJ _ _ _ _ _ _ _ [.int (zI (bI _))] _ _
        first | refine gj_ifB_eq (pc' := 67) (tgt := 71) dX4_readLine_64 (by decide) rfl (fun c64 => ?_) (fun c64 => ?_) | refine gj_if_eq (pc' := 67) (tgt := 71) dX4_readLine_64 (by decide) rfl (by omega) (fun c64 => ?_) (fun c64 => ?_)
        · first | have g64 := of_decide_eq_true c64 | have g64 := of_decide_eq_false c64 | skip
          refine gj_iconst (pc' := 72) dX4_readLine_71 rfl ?_
          refine gj_zret rfl (by first | rfl | exact gnZ _ | assumption) dX4_readLine_72 ?_
          rw [hr]
          first
          | exact lnQ_1 g57 (m1.fr t) m3
          | exact lnQ_b hq c64
        · first | have g64 := of_decide_eq_true c64 | have g64 := of_decide_eq_false c64 | skip
          refine gj_iconst (pc' := 68) dX4_readLine_67 rfl ?_
          refine gj_goto (pc' := 72) dX4_readLine_68 (by decide) ?_
          refine gj_zret rfl (by first | rfl | exact gnZ _ | assumption) dX4_readLine_72 ?_
          rw [hr]
          first
          | exact lnQ_1 g57 (m1.fr t) m3
          | exact lnQ_b hq c64
  · first | have g9 := of_decide_eq_true c9 | have g9 := of_decide_eq_false c9 | skip
    rw [c9, if_pos rfl] at hr
    refine gj_aload_n (pc' := 13) dX4_readLine_12 rfl rfl ?_
    refine gf_X4_45 (pc' := 16) dX4_readLine_13 rfl (by first | rfl | assumption) rfl ?_
    rw [hL]
    first | refine gj_ifB_eq (pc' := 19) (tgt := 27) dX4_readLine_16 (by decide) rfl (fun c16 => ?_) (fun c16 => ?_) | refine gj_if_eq (pc' := 19) (tgt := 27) dX4_readLine_16 (by decide) rfl (by omega) (fun c16 => ?_) (fun c16 => ?_)
    · first | have g16 := of_decide_eq_true c16 | have g16 := of_decide_eq_false c16 | skip
      refine gj_aload_n (pc' := 28) dX4_readLine_27 rfl rfl ?_
      refine gc_X4_85 (pc' := 31) dX4_readLine_28 rfl (s_readLoft ht hI (by omega)) rfl (by first | rfl | assumption) (by decide) rfl (Nat.le_of_ble_eq_true rfl) (fun v9 h9 q9 => ?_)
      have hq := q9
      obtain ⟨rfl, -⟩ := q9
      show gJ _ _ _ _ _ _ _ [.int (zI (bI _))] _ _
      refine gj_zret rfl (by first | rfl | exact gnZ _ | assumption) dX4_readLine_31 ?_
      first
      | (rw [if_neg (by omega)] at hr
         rw [hr]
         exact hq)
      | (rw [if_pos (by omega)] at hr
         rw [hr]
         exact ⟨rfl, q1.fr t, fun z => absurd (show (3 : Nat) = 0 from z) (by decide), fun _ => ⟨q2, q3⟩⟩)
    · first | have g16 := of_decide_eq_true c16 | have g16 := of_decide_eq_false c16 | skip
      refine gj_aload_n (pc' := 20) dX4_readLine_19 rfl rfl ?_
      refine gj_iconst (pc' := 21) dX4_readLine_20 rfl ?_
      refine gc_X4_66 (pc' := 24) dX4_readLine_21 rfl (s_fail (k := 3) hC.2.2.1) rfl (by first | rfl | assumption) (by decide) rfl (Nat.le_of_ble_eq_true rfl) (fun v9 h9 q9 => ?_)
      obtain ⟨rfl, q1, q2, q3⟩ := q9
      show gJ _ _ _ _ _ _ _ [.int (zI 0)] _ _
      refine gj_goto (pc' := 31) dX4_readLine_24 (by decide) ?_
      refine gj_zret rfl (by first | rfl | exact gnZ _ | assumption) dX4_readLine_31 ?_
      first
      | (rw [if_neg (by omega)] at hr
         rw [hr]
         exact hq)
      | (rw [if_pos (by omega)] at hr
         rw [hr]
         exact ⟨rfl, q1.fr t, fun z => absurd (show (3 : Nat) = 0 from z) (by decide), fun _ => ⟨q2, q3⟩⟩)
