/-! the law's start: what the Statement's words give: the texts, the classes, the classes of arrays -/
def stR : List (String × Nat) := [("GrudgeLoft$Reade\x72", 79), ("GrudgeLoft$Reade\x72", 88), ("GrudgeLoft$Tape", 69), ("GrudgeLoft$Tape", 71), ("GrudgeLoft$Tape", 73), ("GrudgeLoft$Reade\x72", 124), ("GrudgeLoft$Reade\x72", 135), ("GrudgeLoft$Reade\x72", 139), ("GrudgeLoft$Reade\x72", 146), ("GrudgeLoft$Reade\x72", 150), ("GrudgeLoft$Reade\x72", 225), ("GrudgeLoft$Reade\x72", 227), ("GrudgeLoft$Reade\x72", 229), ("GrudgeLoft$Reade\x72", 231), ("GrudgeLoft$Reade\x72", 160), ("GrudgeLoft$Reade\x72", 170), ("GrudgeLoft$Reade\x72", 175), ("GrudgeLoft$Reade\x72", 180), ("GrudgeLoft$Reade\x72", 206), ("GrudgeLoft", 379)]
def stM (i : Nat) : Term := .string (stR.getD i ("", 0)).1 (stR.getD i ("", 0)).2
def stW : List Cond := flatC (Jvm.Cond.and given_1 narrow_1)
theorem stW1 : ∀ i, i < 20 → (Cond.exactly (stM i) "java/lang/String") ∈ stW ∧ (Cond.eq (.field (stM i) "java/lang/String" "code\x72" "B") (.int 0)) ∈ stW ∧ (Cond.arrayOf (.field (stM i) "java/lang/String" "value" "[B") .byte) ∈ stW ∧ (Cond.eq (.length (.field (stM i) "java/lang/String" "value" "[B")) (.int (Int32.ofNat (strL.getD i 0)))) ∈ stW := by decide +kernel
theorem stW2 : ∀ i, i < 20 → ∀ j, j < strL.getD i 0 → (Cond.eq (.elem (.field (stM i) "java/lang/String" "value" "[B") (.int (Int32.ofNat j))) (.int ((strB.getD i []).getD j 0))) ∈ stW := by decide +kernel
theorem stW3 : ∀ q ∈ strT, q.2.2.2 < 20 ∧ (stM q.2.2.2 = .string q.1 q.2.1 ∨ Cond.eq (stM q.2.2.2) (.string q.1 q.2.1) ∈ stW) ∧ Cond.stringRef q.1 q.2.1 q.2.2.1 ∈ lw_tbl := by decide +kernel
theorem stW4 : ∀ i, i < 20 → ∀ j, j < 20 → i ≠ j → Int32.ofNat (strL.getD i 0) ≠ Int32.ofNat (strL.getD j 0) ∨ ((List.range (strL.getD i 0)).any (fun k => decide (k < strL.getD j 0 ∧ (strB.getD i []).getD k 0 ≠ (strB.getD j []).getD k 0))) = true := by decide +kernel
theorem st_len : ∀ i, i < 20 → strL.getD i 0 < 2 ^ 31 := by decide +kernel
theorem st_ne {args : Array Value} {s : State} (hs : ∀ w ∈ stW, w.before args s = true) (i j : Nat) (hi : i < 20) (hj : j < 20) (hij : i ≠ j) : (Cond.not (Cond.eq (stM i) (stM j))).before args s = true := by
  obtain ⟨a, c1, -, -, q1, -⟩ := Cond.exactly_spec (args := args) (first := s) (o := none) (s := s) (idx := []) (t := stM i) (cls := "java/lang/String") (hs _ (stW1 i hi).1)
  obtain ⟨b, c2, -, -, q2, -⟩ := Cond.exactly_spec (args := args) (first := s) (o := none) (s := s) (idx := []) (t := stM j) (cls := "java/lang/String") (hs _ (stW1 j hj).1)
  have hne : a ≠ b := by
    intro e
    have ef : (Term.field (stM i) "java/lang/String" "value" "[B").eval args s none [] s = (Term.field (stM j) "java/lang/String" "value" "[B").eval args s none [] s := by rw [va_fe q1, va_fe q2, e]
    rcases stW4 i hi j hj hij with h | h
    · have l1 := va_eqt (hs _ (stW1 i hi).2.2.2)
      have l2 := va_eqt (hs _ (stW1 j hj).2.2.2)
      have el : (Term.length (.field (stM i) "java/lang/String" "value" "[B")).eval args s none [] s = (Term.length (.field (stM j) "java/lang/String" "value" "[B")).eval args s none [] s := by
        simp only [Term.eval, q1, q2, e]
      rw [l1, l2] at el
      exact h (Value.int.inj (Option.some.inj el))
    · obtain ⟨k, hk, hd⟩ := List.any_eq_true.mp h
      have hk1 := List.mem_range.mp hk
      obtain ⟨hk2, hd2⟩ := of_decide_eq_true hd
      have l1 := va_eqt (hs _ (stW2 i hi k hk1))
      have l2 := va_eqt (hs _ (stW2 j hj k hk2))
      have el : (Term.elem (.field (stM i) "java/lang/String" "value" "[B") (.int (Int32.ofNat k))).eval args s none [] s = (Term.elem (.field (stM j) "java/lang/String" "value" "[B") (.int (Int32.ofNat k))).eval args s none [] s := by
        simp only [Term.eval, q1, q2, e]
      rw [l1, l2] at el
      exact hd2 (Value.int.inj (Option.some.inj el))
  simp [Cond.before, Cond.holds, Cond.value, q1, q2, hne]
theorem st_texts {args : Array Value} {s : State} (hlt : ∀ w ∈ lw_tbl, w.before args s = true) (hgv : (Jvm.Cond.and given_1 narrow_1).before args s = true) {A : Nat → Prop} (hA : ∀ a : Nat, a < s.heap.size → ¬ A a) : ∃ adK adV : Nat → Nat, vk_S 20 strL strB adK adV A s s.heap ∧ ∀ q ∈ strT, vk_R q.1 q.2.1 q.2.2.1 (adK q.2.2.2) s := by
  have hs : ∀ w ∈ stW, w.before args s = true := flat_of_before _ hgv
  obtain ⟨adK, adV, h1, h2⟩ := vk_Sof (args := args) (s := s) (N := 20) (tm := stM) (len := strL) (byt := strB) (A := A) st_len (fun i hi => hs _ (stW1 i hi).1) (fun i hi => hs _ (stW1 i hi).2.1) (fun i hi => hs _ (stW1 i hi).2.2.1) (fun i hi => hs _ (stW1 i hi).2.2.2) (fun i hi j hj => hs _ (stW2 i hi j hj)) (fun i j hi hj hij => Or.inl (st_ne hs i j hi hj hij)) hA
  refine ⟨adK, adV, h1, fun q hq => ?_⟩
  obtain ⟨g1, g2, g3⟩ := stW3 q hq
  have e := h2 _ g1
  rcases g2 with g | g
  · rw [g] at e
    exact vk_R.of (hlt _ g3) e
  · exact vk_R.of (hlt _ g3) (va_eqR (hs _ g) e)
theorem st_stat {args : Array Value} {s : State} (hlt : ∀ w ∈ lw_tbl, w.before args s = true) (hgv : (Jvm.Cond.and given_1 narrow_1).before args s = true) {A : Nat → Prop} (hA : ∀ a : Nat, a < s.heap.size → ¬ A a) : va_Z "java/lang/String" "COMPACT_STRINGS" "Z" (.int 1) A s s.heap ∧ va_Zq "jdk/internal/util/Preconditions" "SIOOBE_FORMATTER" "Ljava/util/function/BiFunction;" A s s.heap := by
  have hs : ∀ w ∈ stW, w.before args s = true := flat_of_before _ hgv
  exact ⟨va_Zof (hlt _ (tb_at 450 (by decide +kernel))) (hlt _ (tb_at 13 (by decide +kernel))) (va_eqt (hs (Cond.eq (.static "java/lang/String" "COMPACT_STRINGS" "Z") (.int 1)) (by decide +kernel))) hA, va_Zqof (hlt _ (tb_at 466 (by decide +kernel))) (hlt _ (tb_at 15 (by decide +kernel))) (hs _ (by decide +kernel)) hA⟩
theorem st_cls {args : Array Value} {s : State} (hts : ∀ w ∈ gtb, w.before args s = true) : ∃ D : va_G, ∀ (c : Nat) (q : vw_C), vwCl[c]? = some q → u_Kn s q.1 q.2.1 q.2.2 (D.1 c) (D.2 c) := by
  have h : ∀ c : Nat, ∃ d : ClassId × (Nat → Nat), ∀ q : vw_C, vwCl[c]? = some q → u_Kn s q.1 q.2.1 q.2.2 d.1 d.2 := by
    intro c
    match c with
    | 0 =>
      obtain ⟨cC, iS, h⟩ := u_known (C := RX0) (T := TX0) (N := 2) (n := 2) hts iX0g (hts _ (gtb_at 318 (by decide +kernel) rfl))
      exact ⟨(cC, iS), fun q hq => by cases hq; exact h⟩
    | 1 =>
      obtain ⟨cC, iS, h⟩ := u_known (C := RX2) (T := TX2) (N := 5) (n := 5) hts iX2g (hts _ (gtb_at 291 (by decide +kernel) rfl))
      exact ⟨(cC, iS), fun q hq => by cases hq; exact h⟩
    | 2 =>
      obtain ⟨cC, iS, h⟩ := u_known (C := RX3) (T := TX3) (N := 6) (n := 6) hts iX3g (hts _ (gtb_at 262 (by decide +kernel) rfl))
      exact ⟨(cC, iS), fun q hq => by cases hq; exact h⟩
    | 3 =>
      obtain ⟨cC, iS, h⟩ := u_known (C := RX4) (T := TX4) (N := 9) (n := 9) hts iX4g (hts _ (gtb_at 33 (by decide +kernel) rfl))
      exact ⟨(cC, iS), fun q hq => by cases hq; exact h⟩
    | 4 =>
      obtain ⟨cC, iS, h⟩ := u_known (C := RX5) (T := TX5) (N := 2) (n := 2) hts iX5g (hts _ (gtb_at 331 (by decide +kernel) rfl))
      exact ⟨(cC, iS), fun q hq => by cases hq; exact h⟩
    | 5 =>
      obtain ⟨cC, iS, h⟩ := u_known (C := RX6) (T := TX6) (N := 1) (n := 1) hts iX6g (hts _ (gtb_at 344 (by decide +kernel) rfl))
      exact ⟨(cC, iS), fun q hq => by cases hq; exact h⟩
    | 6 =>
      obtain ⟨cC, iS, h⟩ := u_known (C := RX7) (T := TX7) (N := 12) (n := 12) hts iX7g (hts _ (gtb_at 82 (by decide +kernel) rfl))
      exact ⟨(cC, iS), fun q hq => by cases hq; exact h⟩
    | 7 =>
      obtain ⟨cC, iS, h⟩ := u_known (C := RX8) (T := TX8) (N := 8) (n := 8) hts iX8g (hts _ (gtb_at 39 (by decide +kernel) rfl))
      exact ⟨(cC, iS), fun q hq => by cases hq; exact h⟩
    | 8 =>
      obtain ⟨cC, iS, h⟩ := u_known (C := RX9) (T := TX9) (N := 15) (n := 15) hts iX9g (hts _ (gtb_at 76 (by decide +kernel) rfl))
      exact ⟨(cC, iS), fun q hq => by cases hq; exact h⟩
    | 9 =>
      obtain ⟨cC, iS, h⟩ := u_known (C := RX10) (T := TX10) (N := 10) (n := 10) hts iX10g (hts _ (gtb_at 25 (by decide +kernel) rfl))
      exact ⟨(cC, iS), fun q hq => by cases hq; exact h⟩
    | 10 =>
      obtain ⟨cC, iS, h⟩ := u_known (C := RX11) (T := TX11) (N := 35) (n := 35) hts iX11g (hts _ (gtb_at 1270 (by decide +kernel) rfl))
      exact ⟨(cC, iS), fun q hq => by cases hq; exact h⟩
    | c + 11 => exact ⟨(0, fun _ => 0), fun q hq => by cases hq⟩
  obtain ⟨f, hf⟩ := Classical.axiomOfChoice h
  exact ⟨(fun c => (f c).1, fun c => (f c).2), fun c q hq => hf c q hq⟩
theorem st_arr {args : Array Value} {s : State} {ty : FieldType} (h : (Cond.arrayClass ty).before args s = true) : ∃ cA : ClassId, ArrOfT s cA ty ∧ s.vm.findClass ("[" ++ ty.toString) = some cA := by
  obtain ⟨cA, kA, comp, h1, h2, h3⟩ := Cond.arrayClass_spec h
  exact ⟨cA, fun n z => ⟨fun k h => (by cases h), kA, h2, comp, h3⟩, h1⟩
theorem st_K {args : Array Value} {s : State} (hlt : ∀ w ∈ lw_tbl, w.before args s = true) : ∃ (D : va_G) (aC : Nat → ClassId), va_K D vwCl (gtys aC) s ∧ nO s := by
  obtain ⟨D, hD⟩ := st_cls (s := s) (args := args) (fun w hw => hlt w (List.mem_filter.mp hw).1)
  obtain ⟨a0, b0, c0⟩ := st_arr (ty := .int) (hlt _ (tb_at 138 (by decide +kernel)))
  obtain ⟨a1, b1, c1⟩ := st_arr (ty := .byte) (hlt _ (tb_at 74 (by decide +kernel)))
  obtain ⟨a2, b2, c2⟩ := st_arr (ty := .long) (hlt _ (tb_at 137 (by decide +kernel)))
  have o4 : (Cond.arrayOver (.array .int)).before #[] s = true := hlt (Cond.arrayOver (.array .int)) (tb_at 88 (by decide +kernel))
  have o3 : (Cond.arrayOver (.object RX3)).before #[] s = true := hlt (Cond.arrayOver (.object RX3)) (tb_at 297 (by decide +kernel))
  obtain ⟨comp3, a3, k3, e1, -, e3, e4, e5⟩ := Cond.arrayOver_spec o3
  obtain ⟨comp4, a4, k4, f1, f3, f4, f5⟩ := Cond.arrayOver_specA o4
  refine ⟨D, fun k => if k = 0 then a0 else if k = 1 then a1 else if k = 2 then a2 else if k = 3 then a3 else a4, ⟨hD, fun k q hq => ?_⟩, o4, o3⟩
  match k with
  | 0 => cases hq; exact ⟨b0, c0⟩
  | 1 => cases hq; exact ⟨b1, c1⟩
  | 2 => cases hq; exact ⟨b2, c2⟩
  | 3 => cases hq; exact ⟨fun n z => ⟨fun k h => (by cases h), k3, e3, comp3, e4⟩, k3, comp3, e3, e4, e1, e5⟩
  | 4 => cases hq; exact ⟨fun n z => ⟨fun k h => (by cases h), k4, f3, comp4, f4⟩, f5⟩
  | k + 5 => cases hq
