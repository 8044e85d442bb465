/-! the model's reader: a new name, a house, a number -/
theorem nm_eq {B : Nat → Nat} {e p n : Nat} {T : Nat → Nat} (hU : NU T) (hn : n < 16) (hp : p ≤ e) (hs1 : tSr B e p = 1) : (T (75 + n) ≠ 0 ∧ nmC T n = tWd B e p) ↔ (T (75 + n) ≠ 0 ∧ T (75 + n) = tLn B e p) ∧ ∀ j, j < tLn B e p → (T (91 + 8 * n + j) : Int) = (B (tS B e p + j) : Int) := by
  obtain ⟨u1, u2⟩ := hU.1 n hn
  obtain ⟨a1, a2, a3⟩ := tk_let hp hs1
  constructor
  · intro q
    have := wdN_inj (f := fun k => T (91 + 8 * n + k)) (g := fun i => B (tS B e p + i)) (m := T (75 + n)) (n := tLn B e p) u2 a3 q.2
    refine ⟨⟨q.1, this.1⟩, fun j hj => ?_⟩
    have z : T (91 + 8 * n + j) = B (tS B e p + j) := this.2 j (by omega)
    omega
  · intro q
    refine ⟨q.1.1, ?_⟩
    unfold nmC tWd
    rw [q.1.2]
    refine wdN_cg (fun j hj => ?_)
    have z := q.2 j hj
    show T (91 + 8 * n + j) = B (tS B e p + j)
    omega
theorem anN_0 {a b : Nat} {f g : Nat → Int} (h : ¬ (a ≠ 0 ∧ a = b)) : bI (decide (a ≠ 0 ∧ a = b) && eqN f g 0) = 0 := by
  rw [decide_eq_false h]
  rfl
theorem anN_1 {a b : Nat} {f g : Nat → Int} (h : a ≠ 0 ∧ a = b) : bI (decide (a ≠ 0 ∧ a = b) && eqN f g 0) = 1 := by
  rw [decide_eq_true h]
  rfl
theorem anN_f {c : Bool} {f g : Nat → Int} {k : Nat} (h : ¬ f k = g k) : bI (c && eqN f g (k + 1)) = 0 := by
  show bI (c && (eqN f g k && decide (f k = g k))) = 0
  rw [decide_eq_false h, Bool.and_false, Bool.and_false]
  rfl
theorem anN_t {c : Bool} {f g : Nat → Int} {k : Nat} (h : (c && eqN f g k) = true) (h2 : f k = g k) : bI (c && eqN f g (k + 1)) = 1 := by
  show bI (c && (eqN f g k && decide (f k = g k))) = 1
  rw [decide_eq_true h2, Bool.and_true, h]
  rfl
theorem m_find {h : gH} {B : Nat → Nat} {e p : Nat} {T : Nat → Nat} (hL : ML h B e p T) (hU : NU T) (hs1 : tSr B e p = 1) : gSp 1 yX11_find cX11_find 4 (some .int) [.ref 142] h (fun v h' => h' = h ∧ ∃ r : Int, v = some (.int (zI r)) ∧ ((r = -1 ∧ fd T (tWd B e p) = -2) ∨ ∃ n : Nat, r = (n : Int) ∧ n < 16 ∧ fd T (tWd B e p) = (n : Int))) := by
  obtain ⟨-, hT, hF⟩ := id hL
  have hpe := hT.2.1
  obtain ⟨a1, a2, a3⟩ := tk_let hpe hs1
  obtain ⟨h88, h8l⟩ := hT.2.2.2.2.2.1 hs1
  have hcs := fd_cs (T := T) (tWd B e p)
  refine gSp_of (by decide +kernel) (Nat.le_of_ble_eq_true rfl) ?_
  show gJ RX11 cX11_find 4 (some .int) _ 0 [some (.ref 142), none, none, none] [] _ _
  refine gj_iconst (pc' := 1) dX11_find_0 rfl ?_
  refine gj_istore_n (pc' := 2) dX11_find_1 rfl (by decide) ?_
  refine gJ_wk (gJ_fH0 (L := fun n  => [some (.ref 142), some (.int (zI (n : Int))), none, none]) (I := fun n  hp => hp = h ∧ (∀ j, j < n → ¬ (T (75 + j) ≠ 0 ∧ nmC T j = tWd B e p))) (16) (fun n  hp hb_n iv_n ih_n => ?step_1) (0) (Nat.zero_le _)  _ ?iv0_1) ?ll0_1
  case ll0_1 =>
    repeat' (first | exact True.intro | with_reducible exact rfl | refine And.intro ?_ ?_ | refine vI ?_ | refine vL ?_)
    all_goals first | rfl | omega
  case iv0_1 =>
    exact ⟨rfl, fun j hj => absurd hj (Nat.not_lt_zero j)⟩
  obtain ⟨rfl, i2⟩ := iv_n
  refine gj_iload_n (pc' := 3) dX11_find_2 rfl rfl ?_
  refine gj_bipush (pc' := 5) dX11_find_3 rfl (by decide) ?_
  refine gj_icmp_ge (pc' := 8) (tgt := 103) dX11_find_5 (by decide) rfl (by omega) (fun c5 => ?_) (fun c5 => ?_)
  · refine gj_iconst (pc' := 104) dX11_find_103 rfl ?_
    refine gj_iret rfl dX11_find_104 ?_
    refine ⟨rfl, -1, rfl, Or.inl ⟨rfl, ?_⟩⟩
    rcases hcs with ⟨e2, _⟩ | ⟨n2, n9, e2, e3, e4⟩
    · exact e2
    · exact absurd ⟨e3, e4⟩ (i2 n2 (by omega))
  · refine gj_aload_n (pc' := 9) dX11_find_8 rfl rfl ?_
    refine gf_X11_23 (pc' := 12) dX11_find_9 rfl (by first | rfl | assumption) rfl ?_
    refine gj_bipush (pc' := 14) dX11_find_12 rfl (by decide) ?_
    refine gj_iload_n (pc' := 15) dX11_find_14 rfl rfl ?_
    refine gj_iadd (pc' := 16) dX11_find_15 rfl ?_
    have hu8 := (hU.1 n (by omega)).1
    refine gj_iald (pc' := 17) (j := 75 + n) (by first | rfl | assumption) (by omega) (by omega) (by decide) dX11_find_16 rfl ?_
    rw [hF (75 + n) (by omega)]
    refine gj_if_le (pc' := 20) (tgt := 40) dX11_find_17 (by decide) rfl (by omega) (fun c17 => ?_) (fun c17 => ?_)
    · refine gj_iconst (pc' := 41) dX11_find_40 rfl ?_
      refine gj_istore_n (pc' := 42) dX11_find_41 rfl (by decide) ?_
      refine gj_iconst (pc' := 43) dX11_find_42 rfl ?_
      refine gj_istore_n (pc' := 44) dX11_find_43 rfl (by decide) ?_
      refine gJ_wk (gJ_for (L := fun k => [some (.ref 142), some (.int (zI (n : Int))), some (.int (zI (bI (decide (T (75 + n) ≠ 0 ∧ T (75 + n) = tLn B e p) && eqN (fun j => (T (91 + 8 * n + j) : Int)) (fun j => (B (tS B e p + j) : Int)) k)))), some (.int (zI (k : Int)))]) (tLn B e p) (fun k hb_k ih_k => ?_) (0) (Nat.zero_le _)) ?_
      · refine gj_iload_n (pc' := 45) dX11_find_44 rfl rfl ?_
        refine gj_aload_n (pc' := 46) dX11_find_45 rfl rfl ?_
        refine gf_X11_75 (pc' := 49) dX11_find_46 rfl (by first | rfl | assumption) rfl ?_
        rw [h88]
        refine gj_icmp_ge (pc' := 52) (tgt := 91) dX11_find_49 (by decide) rfl (by omega) (fun c49 => ?_) (fun c49 => ?_)
        · have hneq := nm_eq hU (n := n) (by omega) hpe hs1
          refine gj_iload_n (pc' := 92) dX11_find_91 rfl rfl ?_
          first | refine gj_ifB_eq (pc' := 95) (tgt := 97) dX11_find_92 (by decide) rfl (fun c92 => ?_) (fun c92 => ?_) | refine gj_if_eq (pc' := 95) (tgt := 97) dX11_find_92 (by decide) rfl (by omega) (fun c92 => ?_) (fun c92 => ?_)
          · refine gj_iinc (pc' := 100) dX11_find_97 rfl rfl (by decide) ?_
            refine gj_goto (pc' := 2) dX11_find_100 (by decide) ?_
            refine gJ_wk (ih_n  _ (by omega) ?iv_2) ?ll_2
            case ll_2 =>
              repeat' (first | exact True.intro | with_reducible exact rfl | refine And.intro ?_ ?_ | refine vI ?_ | refine vL ?_)
              all_goals omega
            refine ⟨rfl, fun j hj => ?_⟩
            by_cases q : j = n
            · rw [q]
              intro z
              have z2 := hneq.mp z
              have z3 : (decide (T (75 + n) ≠ 0 ∧ T (75 + n) = tLn B e p) && eqN (fun j => (T (91 + 8 * n + j) : Int)) (fun j => (B (tS B e p + j) : Int)) k) = true := by
                simp only [Bool.and_eq_true, decide_eq_true_eq]
                exact ⟨z2.1, (eqN_t _).mpr (fun i hi => z2.2 i (by omega))⟩
              rw [z3] at c92
              cases c92
            · exact i2 j (by omega)
          · refine gj_iload_n (pc' := 96) dX11_find_95 rfl rfl ?_
            refine gj_iret rfl dX11_find_96 ?_
            first
            | (rw [c53] at c92; cases c92)
            | (have hk : k = tLn B e p := by omega
               rw [hk] at c92
               simp only [Bool.and_eq_true, decide_eq_true_eq] at c92
               have z := hneq.mpr ⟨c92.1, (eqN_t _).mp c92.2⟩
               refine ⟨rfl, n, rfl, Or.inr ⟨n, rfl, by omega, ?_⟩⟩
               rcases hcs with ⟨_, hf⟩ | ⟨n2, n9, e2, e3, e4⟩
               · exact absurd z.2 (hf n (by omega) z.1)
               · rw [e2, hU.2 n n2 (by omega) n9 z.1 e3 (by rw [z.2, e4])])
        · refine gj_iload_n (pc' := 53) dX11_find_52 rfl rfl ?_
          first | refine gj_ifB_eq (pc' := 56) (tgt := 91) dX11_find_53 (by decide) rfl (fun c53 => ?_) (fun c53 => ?_) | refine gj_if_eq (pc' := 56) (tgt := 91) dX11_find_53 (by decide) rfl (by omega) (fun c53 => ?_) (fun c53 => ?_)
          · have hneq := nm_eq hU (n := n) (by omega) hpe hs1
            refine gj_iload_n (pc' := 92) dX11_find_91 rfl rfl ?_
            first | refine gj_ifB_eq (pc' := 95) (tgt := 97) dX11_find_92 (by decide) rfl (fun c92 => ?_) (fun c92 => ?_) | refine gj_if_eq (pc' := 95) (tgt := 97) dX11_find_92 (by decide) rfl (by omega) (fun c92 => ?_) (fun c92 => ?_)
            · refine gj_iinc (pc' := 100) dX11_find_97 rfl rfl (by decide) ?_
              refine gj_goto (pc' := 2) dX11_find_100 (by decide) ?_
              refine gJ_wk (ih_n  _ (by omega) ?iv_3) ?ll_3
              case ll_3 =>
                repeat' (first | exact True.intro | with_reducible exact rfl | refine And.intro ?_ ?_ | refine vI ?_ | refine vL ?_)
                all_goals omega
              refine ⟨rfl, fun j hj => ?_⟩
              by_cases q : j = n
              · rw [q]
                intro z
                have z2 := hneq.mp z
                have z3 : (decide (T (75 + n) ≠ 0 ∧ T (75 + n) = tLn B e p) && eqN (fun j => (T (91 + 8 * n + j) : Int)) (fun j => (B (tS B e p + j) : Int)) k) = true := by
                  simp only [Bool.and_eq_true, decide_eq_true_eq]
                  exact ⟨z2.1, (eqN_t _).mpr (fun i hi => z2.2 i (by omega))⟩
                rw [z3] at c92
                cases c92
              · exact i2 j (by omega)
            · refine gj_iload_n (pc' := 96) dX11_find_95 rfl rfl ?_
              refine gj_iret rfl dX11_find_96 ?_
              first
              | (rw [c53] at c92; cases c92)
              | (have hk : k = tLn B e p := by omega
                 rw [hk] at c92
                 simp only [Bool.and_eq_true, decide_eq_true_eq] at c92
                 have z := hneq.mpr ⟨c92.1, (eqN_t _).mp c92.2⟩
                 refine ⟨rfl, n, rfl, Or.inr ⟨n, rfl, by omega, ?_⟩⟩
                 rcases hcs with ⟨_, hf⟩ | ⟨n2, n9, e2, e3, e4⟩
                 · exact absurd z.2 (hf n (by omega) z.1)
                 · rw [e2, hU.2 n n2 (by omega) n9 z.1 e3 (by rw [z.2, e4])])
          · refine gj_aload_n (pc' := 57) dX11_find_56 rfl rfl ?_
            refine gf_X11_23 (pc' := 60) dX11_find_57 rfl (by first | rfl | assumption) rfl ?_
            refine gj_bipush (pc' := 62) dX11_find_60 rfl (by decide) ?_
            refine gj_bipush (pc' := 64) dX11_find_62 rfl (by decide) ?_
            refine gj_iload_n (pc' := 65) dX11_find_64 rfl rfl ?_
            refine gj_imul (pc' := 66) dX11_find_65 rfl ?_
            refine gj_iadd (pc' := 67) dX11_find_66 rfl ?_
            refine gj_iload_n (pc' := 68) dX11_find_67 rfl rfl ?_
            refine gj_iadd (pc' := 69) dX11_find_68 rfl ?_
            refine gj_iald (pc' := 70) (j := 91 + 8 * n + k) (by first | rfl | assumption) (by omega) (by omega) (by decide) dX11_find_69 rfl ?_
            rw [hF (91 + 8 * n + k) (by omega)]
            refine gj_aload_n (pc' := 71) dX11_find_70 rfl rfl ?_
            refine gf_X11_17 (pc' := 74) dX11_find_71 rfl (by first | rfl | assumption) rfl ?_
            refine gj_iload_n (pc' := 75) dX11_find_74 rfl rfl ?_
            have hn16 : n < 16 := by omega
            have hbk := a3 k (by omega)
            have hun := (hU.1 n hn16)
            have c53' := c53
            simp only [Bool.and_eq_true, decide_eq_true_eq] at c53'
            have hlet := hun.2 k (by omega)
            refine gj_iald (pc' := 76) (j := k) (by first | rfl | assumption) (by omega) (by omega) (by decide) dX11_find_75 rfl ?_
            rw [h8l k (by omega)]
            refine gj_icmp_ne (pc' := 79) (tgt := 83) dX11_find_76 (by decide) rfl (by omega) (fun c76 => ?_) (fun c76 => ?_)
            · refine gj_iconst (pc' := 84) dX11_find_83 rfl ?_
              refine gj_istore_n (pc' := 85) dX11_find_84 rfl (by decide) ?_
              refine gj_iinc (pc' := 88) dX11_find_85 rfl rfl (by decide) ?_
              refine gj_goto (pc' := 44) dX11_find_88 (by decide) ?_
              refine gJ_wk (ih_k (by omega)) ?_
              repeat' (first | exact True.intro | with_reducible exact rfl | refine And.intro ?_ ?_ | refine vI ?_ | refine vL ?_)
              all_goals first
              | omega
              | exact anN_f c76
              | exact anN_t c53 c76
            · refine gj_iconst (pc' := 80) dX11_find_79 rfl ?_
              refine gj_goto (pc' := 84) dX11_find_80 (by decide) ?_
              refine gj_istore_n (pc' := 85) dX11_find_84 rfl (by decide) ?_
              refine gj_iinc (pc' := 88) dX11_find_85 rfl rfl (by decide) ?_
              refine gj_goto (pc' := 44) dX11_find_88 (by decide) ?_
              refine gJ_wk (ih_k (by omega)) ?_
              repeat' (first | exact True.intro | with_reducible exact rfl | refine And.intro ?_ ?_ | refine vI ?_ | refine vL ?_)
              all_goals first
              | omega
              | exact anN_f c76
              | exact anN_t c53 c76
      · repeat' (first | exact True.intro | with_reducible exact rfl | refine And.intro ?_ ?_ | refine vI ?_ | refine vL ?_)
        all_goals first
        | exact anN_0 (by omega)
        | exact anN_1 (by omega)
        | omega
    · refine gj_aload_n (pc' := 21) dX11_find_20 rfl rfl ?_
      refine gf_X11_23 (pc' := 24) dX11_find_21 rfl (by first | rfl | assumption) rfl ?_
      refine gj_bipush (pc' := 26) dX11_find_24 rfl (by decide) ?_
      refine gj_iload_n (pc' := 27) dX11_find_26 rfl rfl ?_
      refine gj_iadd (pc' := 28) dX11_find_27 rfl ?_
      refine gj_iald (pc' := 29) (j := 75 + n) (by first | rfl | assumption) (by omega) (by omega) (by decide) dX11_find_28 rfl ?_
      rw [hF (75 + n) (by omega)]
      refine gj_aload_n (pc' := 30) dX11_find_29 rfl rfl ?_
      refine gf_X11_75 (pc' := 33) dX11_find_30 rfl (by first | rfl | assumption) rfl ?_
      rw [h88]
      refine gj_icmp_ne (pc' := 36) (tgt := 40) dX11_find_33 (by decide) rfl (by omega) (fun c33 => ?_) (fun c33 => ?_)
      · refine gj_iconst (pc' := 41) dX11_find_40 rfl ?_
        refine gj_istore_n (pc' := 42) dX11_find_41 rfl (by decide) ?_
        refine gj_iconst (pc' := 43) dX11_find_42 rfl ?_
        refine gj_istore_n (pc' := 44) dX11_find_43 rfl (by decide) ?_
        refine gJ_wk (gJ_for (L := fun k => [some (.ref 142), some (.int (zI (n : Int))), some (.int (zI (bI (decide (T (75 + n) ≠ 0 ∧ T (75 + n) = tLn B e p) && eqN (fun j => (T (91 + 8 * n + j) : Int)) (fun j => (B (tS B e p + j) : Int)) k)))), some (.int (zI (k : Int)))]) (tLn B e p) (fun k hb_k ih_k => ?_) (0) (Nat.zero_le _)) ?_
        · refine gj_iload_n (pc' := 45) dX11_find_44 rfl rfl ?_
          refine gj_aload_n (pc' := 46) dX11_find_45 rfl rfl ?_
          refine gf_X11_75 (pc' := 49) dX11_find_46 rfl (by first | rfl | assumption) rfl ?_
          rw [h88]
          refine gj_icmp_ge (pc' := 52) (tgt := 91) dX11_find_49 (by decide) rfl (by omega) (fun c49 => ?_) (fun c49 => ?_)
          · have hneq := nm_eq hU (n := n) (by omega) hpe hs1
            refine gj_iload_n (pc' := 92) dX11_find_91 rfl rfl ?_
            first | refine gj_ifB_eq (pc' := 95) (tgt := 97) dX11_find_92 (by decide) rfl (fun c92 => ?_) (fun c92 => ?_) | refine gj_if_eq (pc' := 95) (tgt := 97) dX11_find_92 (by decide) rfl (by omega) (fun c92 => ?_) (fun c92 => ?_)
            · refine gj_iinc (pc' := 100) dX11_find_97 rfl rfl (by decide) ?_
              refine gj_goto (pc' := 2) dX11_find_100 (by decide) ?_
              refine gJ_wk (ih_n  _ (by omega) ?iv_4) ?ll_4
              case ll_4 =>
                repeat' (first | exact True.intro | with_reducible exact rfl | refine And.intro ?_ ?_ | refine vI ?_ | refine vL ?_)
                all_goals omega
              refine ⟨rfl, fun j hj => ?_⟩
              by_cases q : j = n
              · rw [q]
                intro z
                have z2 := hneq.mp z
                have z3 : (decide (T (75 + n) ≠ 0 ∧ T (75 + n) = tLn B e p) && eqN (fun j => (T (91 + 8 * n + j) : Int)) (fun j => (B (tS B e p + j) : Int)) k) = true := by
                  simp only [Bool.and_eq_true, decide_eq_true_eq]
                  exact ⟨z2.1, (eqN_t _).mpr (fun i hi => z2.2 i (by omega))⟩
                rw [z3] at c92
                cases c92
              · exact i2 j (by omega)
            · refine gj_iload_n (pc' := 96) dX11_find_95 rfl rfl ?_
              refine gj_iret rfl dX11_find_96 ?_
              first
              | (rw [c53] at c92; cases c92)
              | (have hk : k = tLn B e p := by omega
                 rw [hk] at c92
                 simp only [Bool.and_eq_true, decide_eq_true_eq] at c92
                 have z := hneq.mpr ⟨c92.1, (eqN_t _).mp c92.2⟩
                 refine ⟨rfl, n, rfl, Or.inr ⟨n, rfl, by omega, ?_⟩⟩
                 rcases hcs with ⟨_, hf⟩ | ⟨n2, n9, e2, e3, e4⟩
                 · exact absurd z.2 (hf n (by omega) z.1)
                 · rw [e2, hU.2 n n2 (by omega) n9 z.1 e3 (by rw [z.2, e4])])
          · refine gj_iload_n (pc' := 53) dX11_find_52 rfl rfl ?_
            first | refine gj_ifB_eq (pc' := 56) (tgt := 91) dX11_find_53 (by decide) rfl (fun c53 => ?_) (fun c53 => ?_) | refine gj_if_eq (pc' := 56) (tgt := 91) dX11_find_53 (by decide) rfl (by omega) (fun c53 => ?_) (fun c53 => ?_)
            · have hneq := nm_eq hU (n := n) (by omega) hpe hs1
              refine gj_iload_n (pc' := 92) dX11_find_91 rfl rfl ?_
              first | refine gj_ifB_eq (pc' := 95) (tgt := 97) dX11_find_92 (by decide) rfl (fun c92 => ?_) (fun c92 => ?_) | refine gj_if_eq (pc' := 95) (tgt := 97) dX11_find_92 (by decide) rfl (by omega) (fun c92 => ?_) (fun c92 => ?_)
              · refine gj_iinc (pc' := 100) dX11_find_97 rfl rfl (by decide) ?_
                refine gj_goto (pc' := 2) dX11_find_100 (by decide) ?_
                refine gJ_wk (ih_n  _ (by omega) ?iv_5) ?ll_5
                case ll_5 =>
                  repeat' (first | exact True.intro | with_reducible exact rfl | refine And.intro ?_ ?_ | refine vI ?_ | refine vL ?_)
                  all_goals omega
                refine ⟨rfl, fun j hj => ?_⟩
                by_cases q : j = n
                · rw [q]
                  intro z
                  have z2 := hneq.mp z
                  have z3 : (decide (T (75 + n) ≠ 0 ∧ T (75 + n) = tLn B e p) && eqN (fun j => (T (91 + 8 * n + j) : Int)) (fun j => (B (tS B e p + j) : Int)) k) = true := by
                    simp only [Bool.and_eq_true, decide_eq_true_eq]
                    exact ⟨z2.1, (eqN_t _).mpr (fun i hi => z2.2 i (by omega))⟩
                  rw [z3] at c92
                  cases c92
                · exact i2 j (by omega)
              · refine gj_iload_n (pc' := 96) dX11_find_95 rfl rfl ?_
                refine gj_iret rfl dX11_find_96 ?_
                first
                | (rw [c53] at c92; cases c92)
                | (have hk : k = tLn B e p := by omega
                   rw [hk] at c92
                   simp only [Bool.and_eq_true, decide_eq_true_eq] at c92
                   have z := hneq.mpr ⟨c92.1, (eqN_t _).mp c92.2⟩
                   refine ⟨rfl, n, rfl, Or.inr ⟨n, rfl, by omega, ?_⟩⟩
                   rcases hcs with ⟨_, hf⟩ | ⟨n2, n9, e2, e3, e4⟩
                   · exact absurd z.2 (hf n (by omega) z.1)
                   · rw [e2, hU.2 n n2 (by omega) n9 z.1 e3 (by rw [z.2, e4])])
            · refine gj_aload_n (pc' := 57) dX11_find_56 rfl rfl ?_
              refine gf_X11_23 (pc' := 60) dX11_find_57 rfl (by first | rfl | assumption) rfl ?_
              refine gj_bipush (pc' := 62) dX11_find_60 rfl (by decide) ?_
              refine gj_bipush (pc' := 64) dX11_find_62 rfl (by decide) ?_
              refine gj_iload_n (pc' := 65) dX11_find_64 rfl rfl ?_
              refine gj_imul (pc' := 66) dX11_find_65 rfl ?_
              refine gj_iadd (pc' := 67) dX11_find_66 rfl ?_
              refine gj_iload_n (pc' := 68) dX11_find_67 rfl rfl ?_
              refine gj_iadd (pc' := 69) dX11_find_68 rfl ?_
              refine gj_iald (pc' := 70) (j := 91 + 8 * n + k) (by first | rfl | assumption) (by omega) (by omega) (by decide) dX11_find_69 rfl ?_
              rw [hF (91 + 8 * n + k) (by omega)]
              refine gj_aload_n (pc' := 71) dX11_find_70 rfl rfl ?_
              refine gf_X11_17 (pc' := 74) dX11_find_71 rfl (by first | rfl | assumption) rfl ?_
              refine gj_iload_n (pc' := 75) dX11_find_74 rfl rfl ?_
              have hn16 : n < 16 := by omega
              have hbk := a3 k (by omega)
              have hun := (hU.1 n hn16)
              have c53' := c53
              simp only [Bool.and_eq_true, decide_eq_true_eq] at c53'
              have hlet := hun.2 k (by omega)
              refine gj_iald (pc' := 76) (j := k) (by first | rfl | assumption) (by omega) (by omega) (by decide) dX11_find_75 rfl ?_
              rw [h8l k (by omega)]
              refine gj_icmp_ne (pc' := 79) (tgt := 83) dX11_find_76 (by decide) rfl (by omega) (fun c76 => ?_) (fun c76 => ?_)
              · refine gj_iconst (pc' := 84) dX11_find_83 rfl ?_
                refine gj_istore_n (pc' := 85) dX11_find_84 rfl (by decide) ?_
                refine gj_iinc (pc' := 88) dX11_find_85 rfl rfl (by decide) ?_
                refine gj_goto (pc' := 44) dX11_find_88 (by decide) ?_
                refine gJ_wk (ih_k (by omega)) ?_
                repeat' (first | exact True.intro | with_reducible exact rfl | refine And.intro ?_ ?_ | refine vI ?_ | refine vL ?_)
                all_goals first
                | omega
                | exact anN_f c76
                | exact anN_t c53 c76
              · refine gj_iconst (pc' := 80) dX11_find_79 rfl ?_
                refine gj_goto (pc' := 84) dX11_find_80 (by decide) ?_
                refine gj_istore_n (pc' := 85) dX11_find_84 rfl (by decide) ?_
                refine gj_iinc (pc' := 88) dX11_find_85 rfl rfl (by decide) ?_
                refine gj_goto (pc' := 44) dX11_find_88 (by decide) ?_
                refine gJ_wk (ih_k (by omega)) ?_
                repeat' (first | exact True.intro | with_reducible exact rfl | refine And.intro ?_ ?_ | refine vI ?_ | refine vL ?_)
                all_goals first
                | omega
                | exact anN_f c76
                | exact anN_t c53 c76
        · repeat' (first | exact True.intro | with_reducible exact rfl | refine And.intro ?_ ?_ | refine vI ?_ | refine vL ?_)
          all_goals first
          | exact anN_0 (by omega)
          | exact anN_1 (by omega)
          | omega
      · refine gj_iconst (pc' := 37) dX11_find_36 rfl ?_
        refine gj_goto (pc' := 41) dX11_find_37 (by decide) ?_
        refine gj_istore_n (pc' := 42) dX11_find_41 rfl (by decide) ?_
        refine gj_iconst (pc' := 43) dX11_find_42 rfl ?_
        refine gj_istore_n (pc' := 44) dX11_find_43 rfl (by decide) ?_
        refine gJ_wk (gJ_for (L := fun k => [some (.ref 142), some (.int (zI (n : Int))), some (.int (zI (bI (decide (T (75 + n) ≠ 0 ∧ T (75 + n) = tLn B e p) && eqN (fun j => (T (91 + 8 * n + j) : Int)) (fun j => (B (tS B e p + j) : Int)) k)))), some (.int (zI (k : Int)))]) (tLn B e p) (fun k hb_k ih_k => ?_) (0) (Nat.zero_le _)) ?_
        · refine gj_iload_n (pc' := 45) dX11_find_44 rfl rfl ?_
          refine gj_aload_n (pc' := 46) dX11_find_45 rfl rfl ?_
          refine gf_X11_75 (pc' := 49) dX11_find_46 rfl (by first | rfl | assumption) rfl ?_
          rw [h88]
          refine gj_icmp_ge (pc' := 52) (tgt := 91) dX11_find_49 (by decide) rfl (by omega) (fun c49 => ?_) (fun c49 => ?_)
          · have hneq := nm_eq hU (n := n) (by omega) hpe hs1
            refine gj_iload_n (pc' := 92) dX11_find_91 rfl rfl ?_
            first | refine gj_ifB_eq (pc' := 95) (tgt := 97) dX11_find_92 (by decide) rfl (fun c92 => ?_) (fun c92 => ?_) | refine gj_if_eq (pc' := 95) (tgt := 97) dX11_find_92 (by decide) rfl (by omega) (fun c92 => ?_) (fun c92 => ?_)
            · refine gj_iinc (pc' := 100) dX11_find_97 rfl rfl (by decide) ?_
              refine gj_goto (pc' := 2) dX11_find_100 (by decide) ?_
              refine gJ_wk (ih_n  _ (by omega) ?iv_6) ?ll_6
              case ll_6 =>
                repeat' (first | exact True.intro | with_reducible exact rfl | refine And.intro ?_ ?_ | refine vI ?_ | refine vL ?_)
                all_goals omega
              refine ⟨rfl, fun j hj => ?_⟩
              by_cases q : j = n
              · rw [q]
                intro z
                have z2 := hneq.mp z
                have z3 : (decide (T (75 + n) ≠ 0 ∧ T (75 + n) = tLn B e p) && eqN (fun j => (T (91 + 8 * n + j) : Int)) (fun j => (B (tS B e p + j) : Int)) k) = true := by
                  simp only [Bool.and_eq_true, decide_eq_true_eq]
                  exact ⟨z2.1, (eqN_t _).mpr (fun i hi => z2.2 i (by omega))⟩
                rw [z3] at c92
                cases c92
              · exact i2 j (by omega)
            · refine gj_iload_n (pc' := 96) dX11_find_95 rfl rfl ?_
              refine gj_iret rfl dX11_find_96 ?_
              first
              | (rw [c53] at c92; cases c92)
              | (have hk : k = tLn B e p := by omega
                 rw [hk] at c92
                 simp only [Bool.and_eq_true, decide_eq_true_eq] at c92
                 have z := hneq.mpr ⟨c92.1, (eqN_t _).mp c92.2⟩
                 refine ⟨rfl, n, rfl, Or.inr ⟨n, rfl, by omega, ?_⟩⟩
                 rcases hcs with ⟨_, hf⟩ | ⟨n2, n9, e2, e3, e4⟩
                 · exact absurd z.2 (hf n (by omega) z.1)
                 · rw [e2, hU.2 n n2 (by omega) n9 z.1 e3 (by rw [z.2, e4])])
          · refine gj_iload_n (pc' := 53) dX11_find_52 rfl rfl ?_
            first | refine gj_ifB_eq (pc' := 56) (tgt := 91) dX11_find_53 (by decide) rfl (fun c53 => ?_) (fun c53 => ?_) | refine gj_if_eq (pc' := 56) (tgt := 91) dX11_find_53 (by decide) rfl (by omega) (fun c53 => ?_) (fun c53 => ?_)
            · have hneq := nm_eq hU (n := n) (by omega) hpe hs1
              refine gj_iload_n (pc' := 92) dX11_find_91 rfl rfl ?_
              first | refine gj_ifB_eq (pc' := 95) (tgt := 97) dX11_find_92 (by decide) rfl (fun c92 => ?_) (fun c92 => ?_) | refine gj_if_eq (pc' := 95) (tgt := 97) dX11_find_92 (by decide) rfl (by omega) (fun c92 => ?_) (fun c92 => ?_)
              · refine gj_iinc (pc' := 100) dX11_find_97 rfl rfl (by decide) ?_
                refine gj_goto (pc' := 2) dX11_find_100 (by decide) ?_
                refine gJ_wk (ih_n  _ (by omega) ?iv_7) ?ll_7
                case ll_7 =>
                  repeat' (first | exact True.intro | with_reducible exact rfl | refine And.intro ?_ ?_ | refine vI ?_ | refine vL ?_)
                  all_goals omega
                refine ⟨rfl, fun j hj => ?_⟩
                by_cases q : j = n
                · rw [q]
                  intro z
                  have z2 := hneq.mp z
                  have z3 : (decide (T (75 + n) ≠ 0 ∧ T (75 + n) = tLn B e p) && eqN (fun j => (T (91 + 8 * n + j) : Int)) (fun j => (B (tS B e p + j) : Int)) k) = true := by
                    simp only [Bool.and_eq_true, decide_eq_true_eq]
                    exact ⟨z2.1, (eqN_t _).mpr (fun i hi => z2.2 i (by omega))⟩
                  rw [z3] at c92
                  cases c92
                · exact i2 j (by omega)
              · refine gj_iload_n (pc' := 96) dX11_find_95 rfl rfl ?_
                refine gj_iret rfl dX11_find_96 ?_
                first
                | (rw [c53] at c92; cases c92)
                | (have hk : k = tLn B e p := by omega
                   rw [hk] at c92
                   simp only [Bool.and_eq_true, decide_eq_true_eq] at c92
                   have z := hneq.mpr ⟨c92.1, (eqN_t _).mp c92.2⟩
                   refine ⟨rfl, n, rfl, Or.inr ⟨n, rfl, by omega, ?_⟩⟩
                   rcases hcs with ⟨_, hf⟩ | ⟨n2, n9, e2, e3, e4⟩
                   · exact absurd z.2 (hf n (by omega) z.1)
                   · rw [e2, hU.2 n n2 (by omega) n9 z.1 e3 (by rw [z.2, e4])])
            · refine gj_aload_n (pc' := 57) dX11_find_56 rfl rfl ?_
              refine gf_X11_23 (pc' := 60) dX11_find_57 rfl (by first | rfl | assumption) rfl ?_
              refine gj_bipush (pc' := 62) dX11_find_60 rfl (by decide) ?_
              refine gj_bipush (pc' := 64) dX11_find_62 rfl (by decide) ?_
              refine gj_iload_n (pc' := 65) dX11_find_64 rfl rfl ?_
              refine gj_imul (pc' := 66) dX11_find_65 rfl ?_
              refine gj_iadd (pc' := 67) dX11_find_66 rfl ?_
              refine gj_iload_n (pc' := 68) dX11_find_67 rfl rfl ?_
              refine gj_iadd (pc' := 69) dX11_find_68 rfl ?_
              refine gj_iald (pc' := 70) (j := 91 + 8 * n + k) (by first | rfl | assumption) (by omega) (by omega) (by decide) dX11_find_69 rfl ?_
              rw [hF (91 + 8 * n + k) (by omega)]
              refine gj_aload_n (pc' := 71) dX11_find_70 rfl rfl ?_
              refine gf_X11_17 (pc' := 74) dX11_find_71 rfl (by first | rfl | assumption) rfl ?_
              refine gj_iload_n (pc' := 75) dX11_find_74 rfl rfl ?_
              have hn16 : n < 16 := by omega
              have hbk := a3 k (by omega)
              have hun := (hU.1 n hn16)
              have c53' := c53
              simp only [Bool.and_eq_true, decide_eq_true_eq] at c53'
              have hlet := hun.2 k (by omega)
              refine gj_iald (pc' := 76) (j := k) (by first | rfl | assumption) (by omega) (by omega) (by decide) dX11_find_75 rfl ?_
              rw [h8l k (by omega)]
              refine gj_icmp_ne (pc' := 79) (tgt := 83) dX11_find_76 (by decide) rfl (by omega) (fun c76 => ?_) (fun c76 => ?_)
              · refine gj_iconst (pc' := 84) dX11_find_83 rfl ?_
                refine gj_istore_n (pc' := 85) dX11_find_84 rfl (by decide) ?_
                refine gj_iinc (pc' := 88) dX11_find_85 rfl rfl (by decide) ?_
                refine gj_goto (pc' := 44) dX11_find_88 (by decide) ?_
                refine gJ_wk (ih_k (by omega)) ?_
                repeat' (first | exact True.intro | with_reducible exact rfl | refine And.intro ?_ ?_ | refine vI ?_ | refine vL ?_)
                all_goals first
                | omega
                | exact anN_f c76
                | exact anN_t c53 c76
              · refine gj_iconst (pc' := 80) dX11_find_79 rfl ?_
                refine gj_goto (pc' := 84) dX11_find_80 (by decide) ?_
                refine gj_istore_n (pc' := 85) dX11_find_84 rfl (by decide) ?_
                refine gj_iinc (pc' := 88) dX11_find_85 rfl rfl (by decide) ?_
                refine gj_goto (pc' := 44) dX11_find_88 (by decide) ?_
                refine gJ_wk (ih_k (by omega)) ?_
                repeat' (first | exact True.intro | with_reducible exact rfl | refine And.intro ?_ ?_ | refine vI ?_ | refine vL ?_)
                all_goals first
                | omega
                | exact anN_f c76
                | exact anN_t c53 c76
        · repeat' (first | exact True.intro | with_reducible exact rfl | refine And.intro ?_ ?_ | refine vI ?_ | refine vL ?_)
          all_goals first
          | exact anN_0 (by omega)
          | exact anN_1 (by omega)
          | omega
theorem MTk.to {h h' : gH} {B : Nat → Nat} {e p : Nat} (a : MTk h B e p) (q : ∀ o, o ≠ 146 → h'.1 o = h.1 o) : MTk h' B e p := by
  obtain ⟨⟨b1, b2, b3⟩, a1, a2, a3, a4, a5, a6⟩ := a
  have q2 := q 142 (by decide)
  have q3 := q 143 (by decide)
  have q4 := q 144 (by decide)
  exact ⟨⟨b1, by rw [q2]; exact b2, fun j hj => by rw [q3]; exact b3 j hj⟩, a1, by rw [q2]; exact a2, by rw [q2]; exact a3, by rw [q2]; exact a4, fun z => by rw [q2, q4]; exact a5 z, fun z => by rw [q2]; exact a6 z⟩
theorem m_newName {h : gH} {B : Nat → Nat} {e s : Nat} {T : Nat → Nat} {x : Nat × Nat} (hM : MM h B e T x) (hU : NU T) (hs : s < 16) (h0 : T (75 + s) = 0) : gSp 7 yX11_newName cX11_newName 3 none [.ref 142, .int (zI (s : Int))] h (fun v h' => v = none ∧ mlE h h' ∧ ∃ x', MM h' B e (tkN B e T s x.2) x' ∧ (x'.1 = 0 → NU (tkN B e T s x.2)) ∧ ∀ R k, chR x R (bd (ptM B e T x.2) k) → chR x' R (k 0 x'.2)) := by
  have hfl := hM.fl
  have hm : ptM B e T x.2 = if tNm B e x.2 = false then (1, tS B e x.2, 0) else if fd T (tWd B e x.2) ≠ -2 then (3, tS B e x.2, 0) else (0, 0, tEn B e x.2) := rfl
  refine gSp_of (by decide +kernel) (Nat.le_of_ble_eq_true rfl) ?_
  show gJ RX11 cX11_newName 3 none _ 0 [some (.ref 142), some (.int (zI (s : Int))), none] [] _ _
  refine gj_aload_n (pc' := 1) dX11_newName_0 rfl rfl ?_
  refine gf_X11_91 (pc' := 4) dX11_newName_1 rfl (by first | rfl | assumption) rfl ?_
  rw [hfl]
  first | refine gj_ifB_eq (pc' := 7) (tgt := 8) dX11_newName_4 (by decide) rfl (fun c4 => ?_) (fun c4 => ?_) | refine gj_if_eq (pc' := 7) (tgt := 8) dX11_newName_4 (by decide) rfl (by omega) (fun c4 => ?_) (fun c4 => ?_)
  · first | have g4 := of_decide_eq_true c4 | have g4 := of_decide_eq_false c4 | skip
    have g0 : x.1 = 0 := Decidable.of_not_not g4
    have hL := hM.1 g0
    refine gj_aload_n (pc' := 9) dX11_newName_8 rfl rfl ?_
    refine gc_X11_132 (pc' := 12) dX11_newName_9 rfl (m_mustName hL) rfl (by first | rfl | assumption) (by decide) rfl (Nat.le_of_ble_eq_true rfl) (fun v9 h9 q9 => ?_)
    obtain ⟨rfl, k1, hM1⟩ := q9
    obtain ⟨ha, rfl⟩ : ∃ x, x = h9 := ⟨h9, rfl⟩
    show gJ _ _ _ _ _ _ _ [] _ _
    refine gj_aload_n (pc' := 13) dX11_newName_12 rfl rfl ?_
    refine gf_X11_91 (pc' := 16) dX11_newName_13 rfl (by first | rfl | assumption) rfl ?_
    rw [hM1.fl]
    first | refine gj_ifB_ne (pc' := 19) (tgt := 35) dX11_newName_16 (by decide) rfl (fun c16 => ?_) (fun c16 => ?_) | refine gj_if_ne (pc' := 19) (tgt := 35) dX11_newName_16 (by decide) rfl (by omega) (fun c16 => ?_) (fun c16 => ?_)
    · first | have g16 := of_decide_eq_true c16 | have g16 := of_decide_eq_false c16 | skip
      first
      | (have hfl2 := (w2.2 (show (3 : Nat) ≠ 0 by decide)).1)
      | (have hfl2 := hL1.1)
      | (have hfl2 := hM1.fl)
      refine gj_aload_n (pc' := 36) dX11_newName_35 rfl rfl ?_
      refine gf_X11_91 (pc' := 39) dX11_newName_36 rfl (by first | rfl | assumption) rfl ?_
      rw [hfl2]
      first | refine gj_ifB_eq (pc' := 42) (tgt := 43) dX11_newName_39 (by decide) rfl (fun c39 => ?_) (fun c39 => ?_) | refine gj_if_eq (pc' := 42) (tgt := 43) dX11_newName_39 (by decide) rfl (by omega) (fun c39 => ?_) (fun c39 => ?_)
      · exfalso; first | omega | (have q := of_decide_eq_true c39; omega) | (have q := of_decide_eq_false c39; omega)
      · first | have g39 := of_decide_eq_true c39 | have g39 := of_decide_eq_false c39 | skip
        refine gj_vret rfl dX11_newName_42 ?_
        first
        | (have y1 := w1
           rw [if_pos (show fd T (tWd B e x.2) ≠ -2 by omega)] at hm
           exact ⟨rfl, (k1.tr w1).e, (3, tS B e x.2), ⟨fun z => absurd (show (3 : Nat) = 0 from z) (by decide), w2.2⟩, fun z => absurd (show (3 : Nat) = 0 from z) (by decide), fun R k a => chR_1 g0 (by decide) hm a⟩)
        | (have hnf := nmx_1 g16
           rw [if_pos hnf] at hm
           rw [nmx_f hnf] at hM1
           exact ⟨rfl, k1.e, (1, tS B e x.2), ⟨fun z => absurd (show (1 : Nat) = 0 from z) (by decide), hM1.2⟩, fun z => absurd (show (1 : Nat) = 0 from z) (by decide), fun R k a => chR_1 g0 (by decide) hm a⟩)
    · first | have g16 := of_decide_eq_true c16 | have g16 := of_decide_eq_false c16 | skip
      have hnm := nmx_0 (Decidable.of_not_not g16)
      rw [nmx_t hnm] at hM1
      have hL1 : ML ha B e x.2 T := hM1.1 rfl
      have hs1 := tNm_1 hnm
      have htl := tk_let hL1.2.1.2.1 hs1
      rw [if_neg (by rw [hnm]; decide)] at hm
      refine gj_aload_n (pc' := 20) dX11_newName_19 rfl rfl ?_
      refine gc_X11_135 (pc' := 23) dX11_newName_20 rfl (m_find hL1 hU hs1) rfl (by first | rfl | assumption) (by decide) rfl (Nat.le_of_ble_eq_true rfl) (fun v9 h9 q9 => ?_)
      obtain ⟨e9, r, rfl, hra⟩ := q9
      rw [e9]
      clear e9
      have hrb : (r = -1 ∧ fd T (tWd B e x.2) = -2) ∨ (0 ≤ r ∧ r < 16 ∧ fd T (tWd B e x.2) ≠ -2) := by
        rcases hra with q | ⟨i, i1, i2, i3⟩
        · exact Or.inl q
        · exact Or.inr ⟨by omega, by omega, by omega⟩
      clear hra
      show gJ _ _ _ _ _ _ _ (.int (zI r) :: _) _ _
      refine gj_if_lt (pc' := 26) (tgt := 35) dX11_newName_23 (by decide) rfl (by omega) (fun c23 => ?_) (fun c23 => ?_)
      · first | have g23 := of_decide_eq_true c23 | have g23 := of_decide_eq_false c23 | skip
        first
        | (have hfl2 := (w2.2 (show (3 : Nat) ≠ 0 by decide)).1)
        | (have hfl2 := hL1.1)
        | (have hfl2 := hM1.fl)
        refine gj_aload_n (pc' := 36) dX11_newName_35 rfl rfl ?_
        refine gf_X11_91 (pc' := 39) dX11_newName_36 rfl (by first | rfl | assumption) rfl ?_
        rw [hfl2]
        first | refine gj_ifB_eq (pc' := 42) (tgt := 43) dX11_newName_39 (by decide) rfl (fun c39 => ?_) (fun c39 => ?_) | refine gj_if_eq (pc' := 42) (tgt := 43) dX11_newName_39 (by decide) rfl (by omega) (fun c39 => ?_) (fun c39 => ?_)
        · first | have g39 := of_decide_eq_true c39 | have g39 := of_decide_eq_false c39 | skip
          have hfd : fd T (tWd B e x.2) = -2 := by omega
          rw [if_neg (by omega)] at hm
          obtain ⟨h13, hT, hF⟩ := id hL1
          obtain ⟨h88, h8l⟩ := hT.2.2.2.2.2.1 hs1
          refine gj_iconst (pc' := 44) dX11_newName_43 rfl ?_
          refine gj_istore_n (pc' := 45) dX11_newName_44 rfl (by decide) ?_
          refine gJ_wk (gJ_fH0 (L := fun k  => [some (.ref 142), some (.int (zI (s : Int))), some (.int (zI (k : Int)))]) (I := fun k  hp => hp.2 = ha.2 ∧ (∀ o, o ≠ 146 → hp.1 o = ha.1 o) ∧ (∀ j, hp.1 146 j = if 91 + 8 * s ≤ j ∧ j < 91 + 8 * s + k then (B (tS B e x.2 + (j - (91 + 8 * s))) : Int) else ha.1 146 j)) (tLn B e x.2) (fun k  hp hb_k iv_k ih_k => ?step_1) (0) (Nat.zero_le _)  _ ?iv0_1) ?ll0_1
          case ll0_1 =>
            repeat' (first | exact True.intro | with_reducible exact rfl | refine And.intro ?_ ?_ | refine vI ?_ | refine vL ?_)
            all_goals first | rfl | omega
          case iv0_1 =>
            exact ⟨rfl, fun _ _ => rfl, fun j => by rw [if_neg (by omega)]⟩
          obtain ⟨i1, i2, i3⟩ := iv_k
          refine gj_iload_n (pc' := 46) dX11_newName_45 rfl rfl ?_
          refine gj_aload_n (pc' := 47) dX11_newName_46 rfl rfl ?_
          refine gf_X11_75 (pc' := 50) dX11_newName_47 rfl (by first | rfl | assumption) rfl ?_
          rw [(by rw [i2 142 (by decide)]; exact h88 : hp.1 142 8 = (tLn B e x.2 : Int))]
          refine gj_icmp_ge (pc' := 53) (tgt := 79) dX11_newName_50 (by decide) rfl (by omega) (fun c50 => ?_) (fun c50 => ?_)
          · refine gj_aload_n (pc' := 80) dX11_newName_79 rfl rfl ?_
            refine gf_X11_23 (pc' := 83) dX11_newName_80 rfl (by first | rfl | assumption) rfl ?_
            refine gj_bipush (pc' := 85) dX11_newName_83 rfl (by decide) ?_
            refine gj_iload_n (pc' := 86) dX11_newName_85 rfl rfl ?_
            refine gj_iadd (pc' := 87) dX11_newName_86 rfl ?_
            refine gj_aload_n (pc' := 88) dX11_newName_87 rfl rfl ?_
            refine gf_X11_75 (pc' := 91) dX11_newName_88 rfl (by first | rfl | assumption) rfl ?_
            rw [(by rw [i2 142 (by decide)]; exact h88 : hp.1 142 8 = (tLn B e x.2 : Int))]
            refine gj_iast (pc' := 92) (j := 75 + s) (by first | rfl | assumption) (by omega) (by omega) (by decide) dX11_newName_91 rfl ?_
            have hk : k = tLn B e x.2 := by omega
            have hL2 : ML (gui hp 146 (75 + s) (tLn B e x.2 : Int)) B e x.2 (tkN B e T s x.2) := by
              refine ⟨by rw [gui_n (by decide), i2 142 (by decide)]; exact h13, hT.to (fun o ho => (gui_n ho).trans (i2 o ho)), fun j hj => ?_⟩
              rw [gui_s]
              unfold tkN adN
              by_cases q : j = 75 + s
              · rw [q, up1_s, if_pos rfl]
              · rw [up1_n q, if_neg q, i3 j, ← hk]
                by_cases q2 : 91 + 8 * s ≤ j ∧ j < 91 + 8 * s + k
                · rw [if_pos q2, if_pos q2]
                · rw [if_neg q2, if_neg q2]
                  exact hF j hj
            refine gj_aload_n (pc' := 93) dX11_newName_92 rfl rfl ?_
            refine gc_X11_112 (pc' := 96) dX11_newName_93 rfl (m_nextL hL2) rfl (by first | rfl | assumption) (by decide) rfl (Nat.le_of_ble_eq_true rfl) (fun v9 h9 q9 => ?_)
            obtain ⟨rfl, n1, n2⟩ := q9
            show gJ _ _ _ _ _ _ _ [] _ _
            refine gj_vret rfl dX11_newName_96 ?_
            have hU2 : NU (tkN B e T s x.2) := adN_U hU hs htl.1 htl.2.2 h0 hfd
            have hE2 : mlE ha (gui hp 146 (75 + s) (tLn B e x.2 : Int)) := ⟨i1, fun o _ _ o3 => (gui_n o3).trans (i2 o o3), fun i _ => by rw [gui_n (by decide), i2 142 (by decide)], mxE.of (by rw [gui_n (by decide), i2 142 (by decide)]) (by rw [gui_n (by decide), i2 142 (by decide)])⟩
            refine ⟨rfl, k1.e.tr (hE2.tr n1.e), (0, tEn B e x.2), MM.at n2, fun _ => hU2, fun R k a => chR_0 (p := 0) g0 hm a⟩
          · refine gj_aload_n (pc' := 54) dX11_newName_53 rfl rfl ?_
            refine gf_X11_23 (pc' := 57) dX11_newName_54 rfl (by first | rfl | assumption) rfl ?_
            refine gj_bipush (pc' := 59) dX11_newName_57 rfl (by decide) ?_
            refine gj_bipush (pc' := 61) dX11_newName_59 rfl (by decide) ?_
            refine gj_iload_n (pc' := 62) dX11_newName_61 rfl rfl ?_
            refine gj_imul (pc' := 63) dX11_newName_62 rfl ?_
            refine gj_iadd (pc' := 64) dX11_newName_63 rfl ?_
            refine gj_iload_n (pc' := 65) dX11_newName_64 rfl rfl ?_
            refine gj_iadd (pc' := 66) dX11_newName_65 rfl ?_
            refine gj_aload_n (pc' := 67) dX11_newName_66 rfl rfl ?_
            refine gf_X11_17 (pc' := 70) dX11_newName_67 rfl (by first | rfl | assumption) rfl ?_
            refine gj_iload_n (pc' := 71) dX11_newName_70 rfl rfl ?_
            refine gj_iald (pc' := 72) (j := k) (by first | rfl | assumption) (by omega) (by omega) (by decide) dX11_newName_71 rfl ?_
            rw [(by rw [i2 144 (by decide)]; exact h8l k (by omega) : hp.1 144 k = (B (tS B e x.2 + k) : Int))]
            refine gj_iast (pc' := 73) (j := 91 + 8 * s + k) (by first | rfl | assumption) (by omega) (by omega) (by decide) dX11_newName_72 rfl ?_
            refine gj_iinc (pc' := 76) dX11_newName_73 rfl rfl (by decide) ?_
            refine gj_goto (pc' := 45) dX11_newName_76 (by decide) ?_
            refine gJ_wk (ih_k  _ (by omega) ?iv_2) ?ll_2
            case ll_2 =>
              repeat' (first | exact True.intro | with_reducible exact rfl | refine And.intro ?_ ?_ | refine vI ?_ | refine vL ?_)
              all_goals omega
            refine ⟨i1, fun o ho => (gui_n ho).trans (i2 o ho), fun j => ?_⟩
            rw [gui_s]
            by_cases q : j = 91 + 8 * s + k
            · rw [q, up1_s, if_pos (by omega), show 91 + 8 * s + k - (91 + 8 * s) = k by omega]
            · rw [up1_n q, i3 j]
              by_cases q2 : 91 + 8 * s ≤ j ∧ j < 91 + 8 * s + k
              · rw [if_pos q2, if_pos (by omega)]
              · rw [if_neg q2, if_neg (by omega)]
        · exfalso; first | omega | (have q := of_decide_eq_true c39; omega) | (have q := of_decide_eq_false c39; omega)
      · first | have g23 := of_decide_eq_true c23 | have g23 := of_decide_eq_false c23 | skip
        refine gj_aload_n (pc' := 27) dX11_newName_26 rfl rfl ?_
        refine gj_iconst (pc' := 28) dX11_newName_27 rfl ?_
        refine gj_aload_n (pc' := 29) dX11_newName_28 rfl rfl ?_
        refine gf_X11_72 (pc' := 32) dX11_newName_29 rfl (by first | rfl | assumption) rfl ?_
        rw [hL1.2.1.2.2.1]
        refine gc_X11_118 (pc' := 35) dX11_newName_32 rfl (m_wrong hL1 (k := 3) (by decide)) rfl (by first | rfl | assumption) (by decide) rfl (Nat.le_of_ble_eq_true rfl) (fun v9 h9 q9 => ?_)
        obtain ⟨rfl, w1, w2⟩ := q9
        show gJ _ _ _ _ _ _ _ [] _ _
        first
        | (have hfl2 := (w2.2 (show (3 : Nat) ≠ 0 by decide)).1)
        | (have hfl2 := hL1.1)
        | (have hfl2 := hM1.fl)
        refine gj_aload_n (pc' := 36) dX11_newName_35 rfl rfl ?_
        refine gf_X11_91 (pc' := 39) dX11_newName_36 rfl (by first | rfl | assumption) rfl ?_
        rw [hfl2]
        first | refine gj_ifB_eq (pc' := 42) (tgt := 43) dX11_newName_39 (by decide) rfl (fun c39 => ?_) (fun c39 => ?_) | refine gj_if_eq (pc' := 42) (tgt := 43) dX11_newName_39 (by decide) rfl (by omega) (fun c39 => ?_) (fun c39 => ?_)
        · exfalso; first | omega | (have q := of_decide_eq_true c39; omega) | (have q := of_decide_eq_false c39; omega)
        · first | have g39 := of_decide_eq_true c39 | have g39 := of_decide_eq_false c39 | skip
          refine gj_vret rfl dX11_newName_42 ?_
          first
          | (have y1 := w1
             rw [if_pos (show fd T (tWd B e x.2) ≠ -2 by omega)] at hm
             exact ⟨rfl, (k1.tr w1).e, (3, tS B e x.2), ⟨fun z => absurd (show (3 : Nat) = 0 from z) (by decide), w2.2⟩, fun z => absurd (show (3 : Nat) = 0 from z) (by decide), fun R k a => chR_1 g0 (by decide) hm a⟩)
          | (have hnf := nmx_1 g16
             rw [if_pos hnf] at hm
             rw [nmx_f hnf] at hM1
             exact ⟨rfl, k1.e, (1, tS B e x.2), ⟨fun z => absurd (show (1 : Nat) = 0 from z) (by decide), hM1.2⟩, fun z => absurd (show (1 : Nat) = 0 from z) (by decide), fun R k a => chR_1 g0 (by decide) hm a⟩)
  · first | have g4 := of_decide_eq_true c4 | have g4 := of_decide_eq_false c4 | skip
    refine gj_vret rfl dX11_newName_7 ?_
    exact ⟨rfl, mlE.rf h, x, ⟨fun z => absurd z g4, hM.2⟩, fun z => absurd z g4, fun R k a => chR_x g4 a⟩
/-- what a house that must stand here may be -/
def hhQ (B : Nat → Nat) (e : Nat) (T : Nat → Nat) (x x' : Nat × Nat) (v : Nat) : Prop := (x.1 ≠ 0 ∧ x' = x) ∨ (x.1 = 0 ∧ tNm B e x.2 = false ∧ x' = (1, tS B e x.2)) ∨ (x.1 = 0 ∧ tNm B e x.2 = true ∧ (fd T (tWd B e x.2) = -2 ∨ 6 ≤ fd T (tWd B e x.2)) ∧ x' = (2, tS B e x.2)) ∨ (x.1 = 0 ∧ tNm B e x.2 = true ∧ fd T (tWd B e x.2) = (v : Int) ∧ x' = (0, x.2))
theorem m_houseHere {h : gH} {B : Nat → Nat} {e : Nat} {T : Nat → Nat} {x : Nat × Nat} (hM : MM h B e T x) (hU : x.1 = 0 → NU T) : gSp 7 yX11_houseHere cX11_houseHere 2 (some .int) [.ref 142] h (fun w h' => ∃ (v : Nat) (x' : Nat × Nat), w = some (.int (zI (v : Int))) ∧ mlN h h' ∧ MM h' B e T x' ∧ v ≤ 5 ∧ hhQ B e T x x' v) := by
  have hfl := hM.fl
  refine gSp_of (by decide +kernel) (Nat.le_of_ble_eq_true rfl) ?_
  show gJ RX11 cX11_houseHere 2 (some .int) _ 0 [some (.ref 142), none] [] _ _
  refine gj_aload_n (pc' := 1) dX11_houseHere_0 rfl rfl ?_
  refine gf_X11_91 (pc' := 4) dX11_houseHere_1 rfl (by first | rfl | assumption) rfl ?_
  rw [hfl]
  first | refine gj_ifB_eq (pc' := 7) (tgt := 9) dX11_houseHere_4 (by decide) rfl (fun c4 => ?_) (fun c4 => ?_) | refine gj_if_eq (pc' := 7) (tgt := 9) dX11_houseHere_4 (by decide) rfl (by omega) (fun c4 => ?_) (fun c4 => ?_)
  · first | have g4 := of_decide_eq_true c4 | have g4 := of_decide_eq_false c4 | skip
    have g0 : x.1 = 0 := Decidable.of_not_not g4
    have hL := hM.1 g0
    have hU := hU g0
    refine gj_aload_n (pc' := 10) dX11_houseHere_9 rfl rfl ?_
    refine gc_X11_132 (pc' := 13) dX11_houseHere_10 rfl (m_mustName hL) rfl (by first | rfl | assumption) (by decide) rfl (Nat.le_of_ble_eq_true rfl) (fun v9 h9 q9 => ?_)
    obtain ⟨rfl, k1, hM1⟩ := q9
    obtain ⟨ha, rfl⟩ : ∃ x, x = h9 := ⟨h9, rfl⟩
    show gJ _ _ _ _ _ _ _ [] _ _
    refine gj_aload_n (pc' := 14) dX11_houseHere_13 rfl rfl ?_
    refine gf_X11_91 (pc' := 17) dX11_houseHere_14 rfl (by first | rfl | assumption) rfl ?_
    rw [hM1.fl]
    first | refine gj_ifB_eq (pc' := 20) (tgt := 22) dX11_houseHere_17 (by decide) rfl (fun c17 => ?_) (fun c17 => ?_) | refine gj_if_eq (pc' := 20) (tgt := 22) dX11_houseHere_17 (by decide) rfl (by omega) (fun c17 => ?_) (fun c17 => ?_)
    · first | have g17 := of_decide_eq_true c17 | have g17 := of_decide_eq_false c17 | skip
      have hnm := nmx_0 (Decidable.of_not_not g17)
      rw [nmx_t hnm] at hM1
      have hL1 : ML ha B e x.2 T := hM1.1 rfl
      have hs1 := tNm_1 hnm
      refine gj_aload_n (pc' := 23) dX11_houseHere_22 rfl rfl ?_
      refine gc_X11_135 (pc' := 26) dX11_houseHere_23 rfl (m_find hL1 hU hs1) rfl (by first | rfl | assumption) (by decide) rfl (Nat.le_of_ble_eq_true rfl) (fun v9 h9 q9 => ?_)
      obtain ⟨e9, r, rfl, hra⟩ := q9
      rw [e9]
      clear e9
      have hrb : (r = -1 ∧ fd T (tWd B e x.2) = -2) ∨ (0 ≤ r ∧ r < 16 ∧ fd T (tWd B e x.2) = r) := by
        rcases hra with q | ⟨i, i1, i2, i3⟩
        · exact Or.inl q
        · exact Or.inr ⟨by omega, by omega, by omega⟩
      clear hra
      show gJ _ _ _ _ _ _ _ (.int (zI r) :: _) _ _
      refine gj_istore_n (pc' := 27) dX11_houseHere_26 rfl (by decide) ?_
      refine gj_iload_n (pc' := 28) dX11_houseHere_27 rfl rfl ?_
      refine gj_iconst (pc' := 29) dX11_houseHere_28 rfl ?_
      refine gj_iconst (pc' := 30) dX11_houseHere_29 rfl ?_
      refine gr_X11_138 (pc' := 33) dX11_houseHere_30 rfl (m_in (by omega) (by omega) (by omega)) rfl (by decide) rfl (Nat.le_of_ble_eq_true rfl) ?_
      first | refine gj_ifB_ne (pc' := 36) (tgt := 45) dX11_houseHere_33 (by decide) rfl (fun c33 => ?_) (fun c33 => ?_) | refine gj_if_ne (pc' := 36) (tgt := 45) dX11_houseHere_33 (by decide) rfl (by omega) (fun c33 => ?_) (fun c33 => ?_)
      · first | have g33 := of_decide_eq_true c33 | have g33 := of_decide_eq_false c33 | skip
        first
        | (have hfl2 := (w2.2 (show (2 : Nat) ≠ 0 by decide)).1)
        | (have hfl2 := hL1.1)
        refine gj_aload_n (pc' := 46) dX11_houseHere_45 rfl rfl ?_
        refine gf_X11_91 (pc' := 49) dX11_houseHere_46 rfl (by first | rfl | assumption) rfl ?_
        rw [hfl2]
        first | refine gj_ifB_eq (pc' := 52) (tgt := 56) dX11_houseHere_49 (by decide) rfl (fun c49 => ?_) (fun c49 => ?_) | refine gj_if_eq (pc' := 52) (tgt := 56) dX11_houseHere_49 (by decide) rfl (by omega) (fun c49 => ?_) (fun c49 => ?_)
        · first | have g49 := of_decide_eq_true c49 | have g49 := of_decide_eq_false c49 | skip
          refine gj_iload_n (pc' := 57) dX11_houseHere_56 rfl rfl ?_
          refine gj_iret rfl dX11_houseHere_57 ?_
          first
          | exact ⟨0, (2, tS B e x.2), rfl, k1.tr w1, w2, Nat.zero_le _, Or.inr (Or.inr (Or.inl ⟨g0, hnm, by omega, rfl⟩))⟩
          | (obtain ⟨v, rfl⟩ : ∃ v : Nat, r = (v : Int) := ⟨r.toNat, by omega⟩
             exact ⟨v, (0, x.2), rfl, k1, hM1, by omega, Or.inr (Or.inr (Or.inr ⟨g0, hnm, by omega, rfl⟩))⟩)
        · exfalso; first | omega | (have q := of_decide_eq_true c49; omega) | (have q := of_decide_eq_false c49; omega)
      · first | have g33 := of_decide_eq_true c33 | have g33 := of_decide_eq_false c33 | skip
        refine gj_aload_n (pc' := 37) dX11_houseHere_36 rfl rfl ?_
        refine gj_iconst (pc' := 38) dX11_houseHere_37 rfl ?_
        refine gj_aload_n (pc' := 39) dX11_houseHere_38 rfl rfl ?_
        refine gf_X11_72 (pc' := 42) dX11_houseHere_39 rfl (by first | rfl | assumption) rfl ?_
        rw [hL1.2.1.2.2.1]
        refine gc_X11_118 (pc' := 45) dX11_houseHere_42 rfl (m_wrong hL1 (k := 2) (by decide)) rfl (by first | rfl | assumption) (by decide) rfl (Nat.le_of_ble_eq_true rfl) (fun v9 h9 q9 => ?_)
        obtain ⟨rfl, w1, w2⟩ := q9
        show gJ _ _ _ _ _ _ _ [] _ _
        first
        | (have hfl2 := (w2.2 (show (2 : Nat) ≠ 0 by decide)).1)
        | (have hfl2 := hL1.1)
        refine gj_aload_n (pc' := 46) dX11_houseHere_45 rfl rfl ?_
        refine gf_X11_91 (pc' := 49) dX11_houseHere_46 rfl (by first | rfl | assumption) rfl ?_
        rw [hfl2]
        first | refine gj_ifB_eq (pc' := 52) (tgt := 56) dX11_houseHere_49 (by decide) rfl (fun c49 => ?_) (fun c49 => ?_) | refine gj_if_eq (pc' := 52) (tgt := 56) dX11_houseHere_49 (by decide) rfl (by omega) (fun c49 => ?_) (fun c49 => ?_)
        · exfalso; first | omega | (have q := of_decide_eq_true c49; omega) | (have q := of_decide_eq_false c49; omega)
        · first | have g49 := of_decide_eq_true c49 | have g49 := of_decide_eq_false c49 | skip
          refine gj_iconst (pc' := 53) dX11_houseHere_52 rfl ?_
          refine gj_goto (pc' := 57) dX11_houseHere_53 (by decide) ?_
          refine gj_iret rfl dX11_houseHere_57 ?_
          first
          | exact ⟨0, (2, tS B e x.2), rfl, k1.tr w1, w2, Nat.zero_le _, Or.inr (Or.inr (Or.inl ⟨g0, hnm, by omega, rfl⟩))⟩
          | (obtain ⟨v, rfl⟩ : ∃ v : Nat, r = (v : Int) := ⟨r.toNat, by omega⟩
             exact ⟨v, (0, x.2), rfl, k1, hM1, by omega, Or.inr (Or.inr (Or.inr ⟨g0, hnm, by omega, rfl⟩))⟩)
    · first | have g17 := of_decide_eq_true c17 | have g17 := of_decide_eq_false c17 | skip
      refine gj_iconst (pc' := 21) dX11_houseHere_20 rfl ?_
      refine gj_iret rfl dX11_houseHere_21 ?_
      have hnf := nmx_1 g17
      rw [nmx_f hnf] at hM1
      exact ⟨0, _, rfl, k1, hM1, Nat.zero_le _, Or.inr (Or.inl ⟨g0, hnf, rfl⟩)⟩
  · first | have g4 := of_decide_eq_true c4 | have g4 := of_decide_eq_false c4 | skip
    refine gj_iconst (pc' := 8) dX11_houseHere_7 rfl ?_
    refine gj_iret rfl dX11_houseHere_8 ?_
    exact ⟨0, x, rfl, mlN.rf h, hM, Nat.zero_le _, Or.inl ⟨g4, rfl⟩⟩
theorem m_housePassed {h : gH} {B : Nat → Nat} {e : Nat} {T : Nat → Nat} {x : Nat × Nat} (hM : MM h B e T x) (hU : x.1 = 0 → NU T) : gSp 8 yX11_housePassed cX11_housePassed 2 (some .int) [.ref 142] h (fun w h' => ∃ (v : Nat) (x' : Nat × Nat), w = some (.int (zI (v : Int))) ∧ mlN h h' ∧ MM h' B e T x' ∧ v ≤ 5 ∧ ∀ R k, chR x R (bd (ptH B e T (-1) x.2) k) → chR x' R (k v x'.2)) := by
  have hw : ptH B e T (-1) x.2 = if tNm B e x.2 = false then (1, tS B e x.2, 0) else if fd T (tWd B e x.2) = -2 ∨ 6 ≤ fd T (tWd B e x.2) then (2, tS B e x.2, 0) else if fd T (tWd B e x.2) = -1 then (3, tS B e x.2, 0) else (0, (fd T (tWd B e x.2)).toNat, tEn B e x.2) := rfl
  refine gSp_of (by decide +kernel) (Nat.le_of_ble_eq_true rfl) ?_
  show gJ RX11 cX11_housePassed 2 (some .int) _ 0 [some (.ref 142), none] [] _ _
  refine gj_aload_n (pc' := 1) dX11_housePassed_0 rfl rfl ?_
  refine gc_X11_142 (pc' := 4) dX11_housePassed_1 rfl (m_houseHere hM hU) rfl (by first | rfl | assumption) (by decide) rfl (Nat.le_of_ble_eq_true rfl) (fun v9 h9 q9 => ?_)
  obtain ⟨v, x1, rfl, k1, hM1, hv, hq⟩ := q9
  obtain ⟨ha, rfl⟩ : ∃ x, x = h9 := ⟨h9, rfl⟩
  show gJ _ _ _ _ _ _ _ (.int (zI (v : Int)) :: _) _ _
  refine gj_istore_n (pc' := 5) dX11_housePassed_4 rfl (by decide) ?_
  refine gj_aload_n (pc' := 6) dX11_housePassed_5 rfl rfl ?_
  refine gf_X11_91 (pc' := 9) dX11_housePassed_6 rfl (by first | rfl | assumption) rfl ?_
  rw [hM1.fl]
  first | refine gj_ifB_ne (pc' := 12) (tgt := 16) dX11_housePassed_9 (by decide) rfl (fun c9 => ?_) (fun c9 => ?_) | refine gj_if_ne (pc' := 12) (tgt := 16) dX11_housePassed_9 (by decide) rfl (by omega) (fun c9 => ?_) (fun c9 => ?_)
  · first | have g9 := of_decide_eq_true c9 | have g9 := of_decide_eq_false c9 | skip
    refine gj_iload_n (pc' := 17) dX11_housePassed_16 rfl rfl ?_
    refine gj_iret rfl dX11_housePassed_17 ?_
    first
    | (have y1 := n1
       refine ⟨v, (0, tEn B e x1.2), rfl, k1.tr n1, MM.at n2, hv, fun R k a => ?_⟩
       rcases hq with ⟨q1, q2⟩ | ⟨q1, q2, q3⟩ | ⟨q1, q2, q3, q4⟩ | ⟨q1, q2, q3, q4⟩
       · rw [q2] at g0
         exact absurd g0 q1
       · rw [q3] at g0
         exact absurd (show (1 : Nat) = 0 from g0) (by decide)
       · rw [q4] at g0
         exact absurd (show (2 : Nat) = 0 from g0) (by decide)
       · rw [if_neg (by rw [q2]; decide), if_neg (by omega), if_neg (by omega), q3] at hw
         rw [q4]
         exact chR_0 (p := 0) q1 hw a)
    | (refine ⟨v, x1, rfl, k1, hM1, hv, fun R k a => ?_⟩
       rcases hq with ⟨q1, q2⟩ | ⟨q1, q2, q3⟩ | ⟨q1, q2, q3, q4⟩ | ⟨q1, q2, q3, q4⟩
       · rw [q2]
         exact chR_x q1 a
       · rw [if_pos q2] at hw
         rw [q3]
         exact chR_1 q1 (by decide) hw a
       · rw [if_neg (by rw [q2]; decide), if_pos q3] at hw
         rw [q4]
         exact chR_1 q1 (by decide) hw a
       · rw [q4] at g9
         exact absurd rfl g9)
  · first | have g9 := of_decide_eq_true c9 | have g9 := of_decide_eq_false c9 | skip
    have g0 : x1.1 = 0 := Decidable.of_not_not g9
    refine gj_aload_n (pc' := 13) dX11_housePassed_12 rfl rfl ?_
    refine gc_X11_112 (pc' := 16) dX11_housePassed_13 rfl (m_nextL (hM1.1 g0)) rfl (by first | rfl | assumption) (by decide) rfl (Nat.le_of_ble_eq_true rfl) (fun v9 h9 q9 => ?_)
    obtain ⟨rfl, n1, n2⟩ := q9
    show gJ _ _ _ _ _ _ _ [] _ _
    refine gj_iload_n (pc' := 17) dX11_housePassed_16 rfl rfl ?_
    refine gj_iret rfl dX11_housePassed_17 ?_
    first
    | (have y1 := n1
       refine ⟨v, (0, tEn B e x1.2), rfl, k1.tr n1, MM.at n2, hv, fun R k a => ?_⟩
       rcases hq with ⟨q1, q2⟩ | ⟨q1, q2, q3⟩ | ⟨q1, q2, q3, q4⟩ | ⟨q1, q2, q3, q4⟩
       · rw [q2] at g0
         exact absurd g0 q1
       · rw [q3] at g0
         exact absurd (show (1 : Nat) = 0 from g0) (by decide)
       · rw [q4] at g0
         exact absurd (show (2 : Nat) = 0 from g0) (by decide)
       · rw [if_neg (by rw [q2]; decide), if_neg (by omega), if_neg (by omega), q3] at hw
         rw [q4]
         exact chR_0 (p := 0) q1 hw a)
    | (refine ⟨v, x1, rfl, k1, hM1, hv, fun R k a => ?_⟩
       rcases hq with ⟨q1, q2⟩ | ⟨q1, q2, q3⟩ | ⟨q1, q2, q3, q4⟩ | ⟨q1, q2, q3, q4⟩
       · rw [q2]
         exact chR_x q1 a
       · rw [if_pos q2] at hw
         rw [q3]
         exact chR_1 q1 (by decide) hw a
       · rw [if_neg (by rw [q2]; decide), if_pos q3] at hw
         rw [q4]
         exact chR_1 q1 (by decide) hw a
       · rw [q4] at g9
         exact absurd rfl g9)
/-- what a number that must stand here may be -/
def nhQ (B : Nat → Nat) (e lo hi : Nat) (x x' : Nat × Nat) (v : Nat) : Prop := (x.1 ≠ 0 ∧ x' = x) ∨ (x.1 = 0 ∧ tSr B e x.2 ≠ 2 ∧ x' = (1, tS B e x.2)) ∨ (x.1 = 0 ∧ tSr B e x.2 = 2 ∧ ¬ (lo ≤ tWh B e x.2 ∧ tWh B e x.2 ≤ hi) ∧ x' = (4, tS B e x.2)) ∨ (x.1 = 0 ∧ tSr B e x.2 = 2 ∧ (lo ≤ v ∧ v ≤ hi) ∧ v = tWh B e x.2 ∧ x' = (0, x.2))
theorem m_numberHere {h : gH} {B : Nat → Nat} {e lo hi : Nat} {T : Nat → Nat} {x : Nat × Nat} (hM : MM h B e T x) (hl : lo ≤ 999 ∧ hi ≤ 999) : gSp 2 yX11_numberHere cX11_numberHere 3 (some .int) [.ref 142, .int (zI (lo : Int)), .int (zI (hi : Int))] h (fun w h' => ∃ (v : Nat) (x' : Nat × Nat), w = some (.int (zI (v : Int))) ∧ mlN h h' ∧ MM h' B e T x' ∧ v ≤ 999 ∧ nhQ B e lo hi x x' v) := by
  have hfl := hM.fl
  refine gSp_of (by decide +kernel) (Nat.le_of_ble_eq_true rfl) ?_
  show gJ RX11 cX11_numberHere 3 (some .int) _ 0 [some (.ref 142), some (.int (zI (lo : Int))), some (.int (zI (hi : Int)))] [] _ _
  refine gj_aload_n (pc' := 1) dX11_numberHere_0 rfl rfl ?_
  refine gf_X11_91 (pc' := 4) dX11_numberHere_1 rfl (by first | rfl | assumption) rfl ?_
  rw [hfl]
  first | refine gj_ifB_eq (pc' := 7) (tgt := 9) dX11_numberHere_4 (by decide) rfl (fun c4 => ?_) (fun c4 => ?_) | refine gj_if_eq (pc' := 7) (tgt := 9) dX11_numberHere_4 (by decide) rfl (by omega) (fun c4 => ?_) (fun c4 => ?_)
  · first | have g4 := of_decide_eq_true c4 | have g4 := of_decide_eq_false c4 | skip
    have g0 : x.1 = 0 := Decidable.of_not_not g4
    have hL := hM.1 g0
    have hT := hL.2.1
    have hsr := tSr_le B e x.2
    have htk := tkM_2 hsr
    refine gj_aload_n (pc' := 10) dX11_numberHere_9 rfl rfl ?_
    refine gf_X11_81 (pc' := 13) dX11_numberHere_10 rfl (by first | rfl | assumption) rfl ?_
    rw [hT.2.2.2.2.1]
    refine gj_iconst (pc' := 14) dX11_numberHere_13 rfl ?_
    refine gj_icmp_eq (pc' := 17) (tgt := 29) dX11_numberHere_14 (by decide) rfl (by omega) (fun c14 => ?_) (fun c14 => ?_)
    · have hs2 : tSr B e x.2 = 2 := htk.2.1.mp (by omega)
      have h7 := hT.2.2.2.2.2.2 hs2
      have hwl := tWh_le (fun j hj => (hT.1.2.2 j hj).1) hT.2.1 hs2
      refine gj_aload_n (pc' := 30) dX11_numberHere_29 rfl rfl ?_
      refine gf_X11_78 (pc' := 33) dX11_numberHere_30 rfl (by first | rfl | assumption) rfl ?_
      rw [h7]
      refine gj_iload_n (pc' := 34) dX11_numberHere_33 rfl rfl ?_
      refine gj_iload_n (pc' := 35) dX11_numberHere_34 rfl rfl ?_
      refine gr_X11_138 (pc' := 38) dX11_numberHere_35 rfl (m_in (by omega) (by omega) (by omega)) rfl (by decide) rfl (Nat.le_of_ble_eq_true rfl) ?_
      first | refine gj_ifB_ne (pc' := 41) (tgt := 50) dX11_numberHere_38 (by decide) rfl (fun c38 => ?_) (fun c38 => ?_) | refine gj_if_ne (pc' := 41) (tgt := 50) dX11_numberHere_38 (by decide) rfl (by omega) (fun c38 => ?_) (fun c38 => ?_)
      · first | have g38 := of_decide_eq_true c38 | have g38 := of_decide_eq_false c38 | skip
        first
        | (have hfl2 := (w2.2 (show (1 : Nat) ≠ 0 by decide)).1)
        | (have hfl2 := (w2.2 (show (4 : Nat) ≠ 0 by decide)).1)
        | (have hfl2 := hL.1)
        refine gj_aload_n (pc' := 51) dX11_numberHere_50 rfl rfl ?_
        refine gf_X11_91 (pc' := 54) dX11_numberHere_51 rfl (by first | rfl | assumption) rfl ?_
        rw [hfl2]
        first | refine gj_ifB_eq (pc' := 57) (tgt := 61) dX11_numberHere_54 (by decide) rfl (fun c54 => ?_) (fun c54 => ?_) | refine gj_if_eq (pc' := 57) (tgt := 61) dX11_numberHere_54 (by decide) rfl (by omega) (fun c54 => ?_) (fun c54 => ?_)
        · first | have g54 := of_decide_eq_true c54 | have g54 := of_decide_eq_false c54 | skip
          refine gj_aload_n (pc' := 62) dX11_numberHere_61 rfl rfl ?_
          refine gf_X11_78 (pc' := 65) dX11_numberHere_62 rfl (by first | rfl | assumption) rfl ?_
          rw [h7]
          refine gj_iret rfl dX11_numberHere_65 ?_
          first
          | (have y1 := w1
             have y2 := hs2
             exact ⟨lo, (4, tS B e x.2), rfl, w1, w2, hl.1, Or.inr (Or.inr (Or.inl ⟨g0, hs2, by omega, rfl⟩))⟩)
          | (have y1 := w1
             exact ⟨lo, (1, tS B e x.2), rfl, w1, w2, hl.1, Or.inr (Or.inl ⟨g0, fun z => by have := htk.2.1.mpr z; omega, rfl⟩)⟩)
          | exact ⟨tWh B e x.2, (0, x.2), rfl, mlN.rf h, MM.at hL, hwl, Or.inr (Or.inr (Or.inr ⟨g0, hs2, by omega, rfl, rfl⟩))⟩
        · exfalso; first | omega | (have q := of_decide_eq_true c54; omega) | (have q := of_decide_eq_false c54; omega)
      · first | have g38 := of_decide_eq_true c38 | have g38 := of_decide_eq_false c38 | skip
        refine gj_aload_n (pc' := 42) dX11_numberHere_41 rfl rfl ?_
        refine gj_iconst (pc' := 43) dX11_numberHere_42 rfl ?_
        refine gj_aload_n (pc' := 44) dX11_numberHere_43 rfl rfl ?_
        refine gf_X11_72 (pc' := 47) dX11_numberHere_44 rfl (by first | rfl | assumption) rfl ?_
        rw [hT.2.2.1]
        refine gc_X11_118 (pc' := 50) dX11_numberHere_47 rfl (m_wrong hL (k := 4) (by decide)) rfl (by first | rfl | assumption) (by decide) rfl (Nat.le_of_ble_eq_true rfl) (fun v9 h9 q9 => ?_)
        obtain ⟨rfl, w1, w2⟩ := q9
        show gJ _ _ _ _ _ _ _ [] _ _
        first
        | (have hfl2 := (w2.2 (show (1 : Nat) ≠ 0 by decide)).1)
        | (have hfl2 := (w2.2 (show (4 : Nat) ≠ 0 by decide)).1)
        | (have hfl2 := hL.1)
        refine gj_aload_n (pc' := 51) dX11_numberHere_50 rfl rfl ?_
        refine gf_X11_91 (pc' := 54) dX11_numberHere_51 rfl (by first | rfl | assumption) rfl ?_
        rw [hfl2]
        first | refine gj_ifB_eq (pc' := 57) (tgt := 61) dX11_numberHere_54 (by decide) rfl (fun c54 => ?_) (fun c54 => ?_) | refine gj_if_eq (pc' := 57) (tgt := 61) dX11_numberHere_54 (by decide) rfl (by omega) (fun c54 => ?_) (fun c54 => ?_)
        · exfalso; first | omega | (have q := of_decide_eq_true c54; omega) | (have q := of_decide_eq_false c54; omega)
        · first | have g54 := of_decide_eq_true c54 | have g54 := of_decide_eq_false c54 | skip
          refine gj_iload_n (pc' := 58) dX11_numberHere_57 rfl rfl ?_
          refine gj_goto (pc' := 65) dX11_numberHere_58 (by decide) ?_
          refine gj_iret rfl dX11_numberHere_65 ?_
          first
          | (have y1 := w1
             have y2 := hs2
             exact ⟨lo, (4, tS B e x.2), rfl, w1, w2, hl.1, Or.inr (Or.inr (Or.inl ⟨g0, hs2, by omega, rfl⟩))⟩)
          | (have y1 := w1
             exact ⟨lo, (1, tS B e x.2), rfl, w1, w2, hl.1, Or.inr (Or.inl ⟨g0, fun z => by have := htk.2.1.mpr z; omega, rfl⟩)⟩)
          | exact ⟨tWh B e x.2, (0, x.2), rfl, mlN.rf h, MM.at hL, hwl, Or.inr (Or.inr (Or.inr ⟨g0, hs2, by omega, rfl, rfl⟩))⟩
    · refine gj_aload_n (pc' := 18) dX11_numberHere_17 rfl rfl ?_
      refine gj_iconst (pc' := 19) dX11_numberHere_18 rfl ?_
      refine gj_aload_n (pc' := 20) dX11_numberHere_19 rfl rfl ?_
      refine gf_X11_72 (pc' := 23) dX11_numberHere_20 rfl (by first | rfl | assumption) rfl ?_
      rw [hT.2.2.1]
      refine gc_X11_118 (pc' := 26) dX11_numberHere_23 rfl (m_wrong hL (k := 1) (by decide)) rfl (by first | rfl | assumption) (by decide) rfl (Nat.le_of_ble_eq_true rfl) (fun v9 h9 q9 => ?_)
      obtain ⟨rfl, w1, w2⟩ := q9
      show gJ _ _ _ _ _ _ _ [] _ _
      refine gj_goto (pc' := 50) dX11_numberHere_26 (by decide) ?_
      first
      | (have hfl2 := (w2.2 (show (1 : Nat) ≠ 0 by decide)).1)
      | (have hfl2 := (w2.2 (show (4 : Nat) ≠ 0 by decide)).1)
      | (have hfl2 := hL.1)
      refine gj_aload_n (pc' := 51) dX11_numberHere_50 rfl rfl ?_
      refine gf_X11_91 (pc' := 54) dX11_numberHere_51 rfl (by first | rfl | assumption) rfl ?_
      rw [hfl2]
      first | refine gj_ifB_eq (pc' := 57) (tgt := 61) dX11_numberHere_54 (by decide) rfl (fun c54 => ?_) (fun c54 => ?_) | refine gj_if_eq (pc' := 57) (tgt := 61) dX11_numberHere_54 (by decide) rfl (by omega) (fun c54 => ?_) (fun c54 => ?_)
      · exfalso; first | omega | (have q := of_decide_eq_true c54; omega) | (have q := of_decide_eq_false c54; omega)
      · first | have g54 := of_decide_eq_true c54 | have g54 := of_decide_eq_false c54 | skip
        refine gj_iload_n (pc' := 58) dX11_numberHere_57 rfl rfl ?_
        refine gj_goto (pc' := 65) dX11_numberHere_58 (by decide) ?_
        refine gj_iret rfl dX11_numberHere_65 ?_
        first
        | (have y1 := w1
           have y2 := hs2
           exact ⟨lo, (4, tS B e x.2), rfl, w1, w2, hl.1, Or.inr (Or.inr (Or.inl ⟨g0, hs2, by omega, rfl⟩))⟩)
        | (have y1 := w1
           exact ⟨lo, (1, tS B e x.2), rfl, w1, w2, hl.1, Or.inr (Or.inl ⟨g0, fun z => by have := htk.2.1.mpr z; omega, rfl⟩)⟩)
        | exact ⟨tWh B e x.2, (0, x.2), rfl, mlN.rf h, MM.at hL, hwl, Or.inr (Or.inr (Or.inr ⟨g0, hs2, by omega, rfl, rfl⟩))⟩
  · first | have g4 := of_decide_eq_true c4 | have g4 := of_decide_eq_false c4 | skip
    refine gj_iload_n (pc' := 8) dX11_numberHere_7 rfl rfl ?_
    refine gj_iret rfl dX11_numberHere_8 ?_
    exact ⟨lo, x, rfl, mlN.rf h, hM, hl.1, Or.inl ⟨g4, rfl⟩⟩
theorem bd_N {B : Nat → Nat} {e i lo hi p : Nat} {k : Nat → Nat → Nat × Nat × (Nat → Nat)} : bd (ptN B e i lo hi p) k = bd (ptW B e i p) (fun _ p1 => bd (ptI B e lo hi p1) k) := by
  unfold ptN ptW
  by_cases q : tIs B e p i = true
  · rw [if_pos q, if_pos q]
    rfl
  · rw [if_neg q, if_neg q]
    rfl
theorem m_after {h : gH} {B : Nat → Nat} {e i lo hi : Nat} {T : Nat → Nat} {x : Nat × Nat} (hM : MM h B e T x) (hi19 : i < 19) (hl : lo ≤ 999 ∧ hi ≤ 999) : gSp 8 yX11_after cX11_after 5 (some .int) [.ref 142, .ref (1000 + i), .int (zI (lo : Int)), .int (zI (hi : Int))] h (fun w h' => ∃ (v : Nat) (x' : Nat × Nat), w = some (.int (zI (v : Int))) ∧ mlN h h' ∧ MM h' B e T x' ∧ ∀ R k, chR x R (bd (ptN B e i lo hi x.2) k) → chR x' R (k v x'.2)) := by
  refine gSp_of (by decide +kernel) (Nat.le_of_ble_eq_true rfl) ?_
  show gJ RX11 cX11_after 5 (some .int) _ 0 [some (.ref 142), some (.ref (1000 + i)), some (.int (zI (lo : Int))), some (.int (zI (hi : Int))), none] [] _ _
  refine gj_aload_n (pc' := 1) dX11_after_0 rfl rfl ?_
  refine gj_aload_n (pc' := 2) dX11_after_1 rfl rfl ?_
  refine gc_X11_145 (pc' := 5) dX11_after_2 rfl (m_must hM hi19) rfl (by first | rfl | assumption) (by decide) rfl (Nat.le_of_ble_eq_true rfl) (fun v9 h9 q9 => ?_)
  obtain ⟨rfl, k1, x1, hM1, ch1⟩ := q9
  obtain ⟨ha, rfl⟩ : ∃ x, x = h9 := ⟨h9, rfl⟩
  show gJ _ _ _ _ _ _ _ [] _ _
  refine gj_aload_n (pc' := 6) dX11_after_5 rfl rfl ?_
  refine gj_iload_n (pc' := 7) dX11_after_6 rfl rfl ?_
  refine gj_iload_n (pc' := 8) dX11_after_7 rfl rfl ?_
  refine gc_X11_149 (pc' := 11) dX11_after_8 rfl (m_numberHere hM1 hl) rfl (by first | rfl | assumption) (by decide) rfl (Nat.le_of_ble_eq_true rfl) (fun v9 h9 q9 => ?_)
  obtain ⟨v, x2, rfl, k2, hM2, hv, hq⟩ := q9
  obtain ⟨hb, rfl⟩ : ∃ x, x = h9 := ⟨h9, rfl⟩
  have hw : ptI B e lo hi x1.2 = if tSr B e x1.2 ≠ 2 then (1, tS B e x1.2, 0) else if lo ≤ tWh B e x1.2 ∧ tWh B e x1.2 ≤ hi then (0, tWh B e x1.2, tEn B e x1.2) else (4, tS B e x1.2, 0) := rfl
  have ch2 : ∀ R k, chR x R (bd (ptN B e i lo hi x.2) k) → chR x1 R (bd (ptI B e lo hi x1.2) k) := fun R k a => by
    rw [bd_N] at a
    exact ch1 R _ a
  show gJ _ _ _ _ _ _ _ (.int (zI (v : Int)) :: _) _ _
  refine gj_istore (pc' := 13) dX11_after_11 rfl (by decide) ?_
  refine gj_aload_n (pc' := 14) dX11_after_13 rfl rfl ?_
  refine gf_X11_91 (pc' := 17) dX11_after_14 rfl (by first | rfl | assumption) rfl ?_
  rw [hM2.fl]
  first | refine gj_ifB_ne (pc' := 20) (tgt := 24) dX11_after_17 (by decide) rfl (fun c17 => ?_) (fun c17 => ?_) | refine gj_if_ne (pc' := 20) (tgt := 24) dX11_after_17 (by decide) rfl (by omega) (fun c17 => ?_) (fun c17 => ?_)
  · first | have g17 := of_decide_eq_true c17 | have g17 := of_decide_eq_false c17 | skip
    refine gj_iload (pc' := 26) dX11_after_24 rfl rfl ?_
    refine gj_iret rfl dX11_after_26 ?_
    first
    | (have y1 := n1
       refine ⟨v, (0, tEn B e x2.2), rfl, k1.tr (k2.tr n1), MM.at n2, fun R k a => ?_⟩
       have a1 := ch2 R k a
       rcases hq with ⟨q1, q2⟩ | ⟨q1, q2, q3⟩ | ⟨q1, q2, q3, q4⟩ | ⟨q1, q2, q3, q4, q5⟩
       · rw [q2] at g0
         exact absurd g0 q1
       · rw [q3] at g0
         exact absurd (show (1 : Nat) = 0 from g0) (by decide)
       · rw [q4] at g0
         exact absurd (show (4 : Nat) = 0 from g0) (by decide)
       · rw [if_neg (by omega), if_pos (by omega), ← q4] at hw
         rw [q5]
         exact chR_0 (p := 0) q1 hw a1)
    | (refine ⟨v, x2, rfl, k1.tr k2, hM2, fun R k a => ?_⟩
       have a1 := ch2 R k a
       rcases hq with ⟨q1, q2⟩ | ⟨q1, q2, q3⟩ | ⟨q1, q2, q3, q4⟩ | ⟨q1, q2, q3, q4, q5⟩
       · rw [q2]
         exact chR_x q1 a1
       · rw [if_pos q2] at hw
         rw [q3]
         exact chR_1 q1 (by decide) hw a1
       · rw [if_neg (by omega), if_neg q3] at hw
         rw [q4]
         exact chR_1 q1 (by decide) hw a1
       · rw [q5] at g17
         exact absurd rfl g17)
  · first | have g17 := of_decide_eq_true c17 | have g17 := of_decide_eq_false c17 | skip
    have g0 : x2.1 = 0 := Decidable.of_not_not g17
    refine gj_aload_n (pc' := 21) dX11_after_20 rfl rfl ?_
    refine gc_X11_112 (pc' := 24) dX11_after_21 rfl (m_nextL (hM2.1 g0)) rfl (by first | rfl | assumption) (by decide) rfl (Nat.le_of_ble_eq_true rfl) (fun v9 h9 q9 => ?_)
    obtain ⟨rfl, n1, n2⟩ := q9
    show gJ _ _ _ _ _ _ _ [] _ _
    refine gj_iload (pc' := 26) dX11_after_24 rfl rfl ?_
    refine gj_iret rfl dX11_after_26 ?_
    first
    | (have y1 := n1
       refine ⟨v, (0, tEn B e x2.2), rfl, k1.tr (k2.tr n1), MM.at n2, fun R k a => ?_⟩
       have a1 := ch2 R k a
       rcases hq with ⟨q1, q2⟩ | ⟨q1, q2, q3⟩ | ⟨q1, q2, q3, q4⟩ | ⟨q1, q2, q3, q4, q5⟩
       · rw [q2] at g0
         exact absurd g0 q1
       · rw [q3] at g0
         exact absurd (show (1 : Nat) = 0 from g0) (by decide)
       · rw [q4] at g0
         exact absurd (show (4 : Nat) = 0 from g0) (by decide)
       · rw [if_neg (by omega), if_pos (by omega), ← q4] at hw
         rw [q5]
         exact chR_0 (p := 0) q1 hw a1)
    | (refine ⟨v, x2, rfl, k1.tr k2, hM2, fun R k a => ?_⟩
       have a1 := ch2 R k a
       rcases hq with ⟨q1, q2⟩ | ⟨q1, q2, q3⟩ | ⟨q1, q2, q3, q4⟩ | ⟨q1, q2, q3, q4, q5⟩
       · rw [q2]
         exact chR_x q1 a1
       · rw [if_pos q2] at hw
         rw [q3]
         exact chR_1 q1 (by decide) hw a1
       · rw [if_neg (by omega), if_neg q3] at hw
         rw [q4]
         exact chR_1 q1 (by decide) hw a1
       · rw [q5] at g17
         exact absurd rfl g17)
