/-! the texts: String.length, String.charAt, as the JDK's code -/
def gSq (d : Nat) (y : MethodName) (cc : ByteArray) (nL : Nat) (rt : Option FieldType) (av : List Value) (h : gH) (Q : Option Value → gH → Prop) : Prop :=
  ∀ (l : Launch) (D : va_G) (aC : Nat → ClassId) (ad : Nat → Nat) (sz : Nat), gInj ad → Met l y (Cond.code y cc nL rt :: gtb) (rmD d) (va_Pc av (gPre D aC ad sz h)) (gQm D aC ad (gA ad sz) Q) 0 0 (gA ad sz)
theorem gSq_of {d : Nat} {y : MethodName} {cc : ByteArray} {nL : Nat} {rt : Option FieldType} {av : List Value} {ls : List (Option Value)} {h : gH} {Q : Option Value → gH → Prop} (hy : plainName y.cls = true) (hlen : (lg_sl av).length ≤ nL) (hk : ∀ (ad : Nat → Nat) (i : Nat) (v : Value), ls[i]? = some (some v) → (i, gv ad v) ∈ lv_args 0 av) (k : gJ y.cls cc nL rt d 0 ls [] h Q) : gSq d y cc nL rt av h Q := by
  intro l D aC ad sz hinj
  refine Met.ofW (cc := cc) (maxL := nL) (ret := rt) hy rfl ?_
  intro p e s m argsA below meth c s₁ B hml hv
  obtain ⟨rfl, hsz, hP, hK, hX⟩ := hv
  have hts : ∀ w ∈ gtb, w.before av.toArray s = true := fun w hw => atoms_spec (ws := Cond.code y cc nL rt :: gtb) B.pre w (List.mem_cons_of_mem _ hw)
  have hown : s.vm.findClass y.cls = some m.cls := findClass_of_methodNamed B.named
  subst hsz
  have hl := lv_entry av (n := nL) hlen
  rw [lg_entry_eq]
  exact k p l e s m _ below meth c D aC ad ⟨B.exec, B.bytes, hml, B.returns, hown, hts, B.notSynchronized, hK, hinj, hX⟩ s.heap [] _ hP va_S.rf ⟨_, hl, fun i v hi => hk ad i v hi⟩
theorem s_pcheck {h : gH} {k n : Nat} {f : Value} (hf : f.category = 1) (hk : k < n) (hn : n < 100000) : gSq 1 yJ3_checkIndex_8e157 cJ3_checkIndex_8e157 3 (some .int) [.int (zI (k : Int)), .int (zI (n : Int)), f] h (gR (.int (zI (k : Int))) h) := by
  refine gSq_of (ls := [some (.int (zI (k : Int))), some (.int (zI (n : Int))), none]) (by decide +kernel) ?_ ?_ ?_
  · have e : (lg_sl [Value.int (zI (k : Int)), .int (zI (n : Int)), f]) = [.val (.int (zI (k : Int))), .val (.int (zI (n : Int))), .val f] := by
      show List.flatMap _ _ = _
      simp only [List.flatMap_cons, List.flatMap_nil, hf]
      rfl
    rw [e]
    exact Nat.le_refl 3
  · intro ad i v hi
    match i, hi with
    | 0, hi => cases hi; exact List.mem_cons_self
    | 1, hi => cases hi; exact List.mem_cons_of_mem _ List.mem_cons_self
    | 2, hi => cases hi
    | i + 3, hi => simp at hi
  · show gJ RJ3 cJ3_checkIndex_8e157 3 (some .int) 1 0 [some (.int (zI (k : Int))), some (.int (zI (n : Int))), none] [] h _
    refine gj_iload_n (pc' := 1) dJ3_checkIndex_8e157_0 rfl rfl ?_
    refine gj_if_lt (pc' := 4) (tgt := 9) dJ3_checkIndex_8e157_1 (by decide) rfl (by omega) (fun c1 => ?_) (fun c1 => ?_)
    · exfalso; omega
    · refine gj_iload_n (pc' := 5) dJ3_checkIndex_8e157_4 rfl rfl ?_
      refine gj_iload_n (pc' := 6) dJ3_checkIndex_8e157_5 rfl rfl ?_
      refine gj_icmp_lt (pc' := 9) (tgt := 16) dJ3_checkIndex_8e157_6 (by decide) rfl (by omega) (fun c6 => ?_) (fun c6 => ?_)
      · refine gj_iload_n (pc' := 17) dJ3_checkIndex_8e157_16 rfl rfl ?_
        refine gj_iret rfl dJ3_checkIndex_8e157_17 ?_
        exact ⟨rfl, rfl⟩
      · exfalso; omega
section STR
variable {own : String} {cc : ByteArray} {nL : Nat} {rt : Option FieldType} {d pc pc' : Nat} {ls : List (Option Value)} {st : List Value} {h : gH} {Q : Option Value → gH → Prop}
theorem gj_compact {index : Nat} (hl : Cond.fieldLink own index "java/lang/String" "COMPACT_STRINGS" "Z" ∈ gtb) (hd : decode cc pc = .ok (.getstatic index, 3)) (hp : pc + 3 = pc') (k : gJ own cc nL rt d pc' ls (.int (zI 1) :: st) h Q) : gJ own cc nL rt d pc ls st h Q := by
  subst hp
  intro p l e s m args below meth c D aC ad C0 H locs lsA hP hS hL
  obtain ⟨hx, hb, hml, hr, hown, hts, hlocks, hK, hinj, hX⟩ := id C0
  exact va_gets (C := "java/lang/String") (n := "COMPACT_STRINGS") (d := "Z") hx hb hX.2.2.1 hS hown (hts _ hl) (fun x q => q) hd (k p l e s m args below meth c D aC ad C0 H locs lsA hP hS hL)
theorem gj_scoder {i index : Nat} (hi : i < 20) (hl : Cond.fieldLink own index "java/lang/String" "code\x72" "B" ∈ gtb) (hd : decode cc pc = .ok (.getfield index, 3)) (hp : pc + 3 = pc') (k : gJ own cc nL rt d pc' ls (.int (zI 0) :: st) h Q) : gJ own cc nL rt d pc ls (.ref (1000 + i) :: st) h Q := by
  subst hp
  intro p l e s m args below meth c D aC ad C0 H locs lsA hP hS hL
  obtain ⟨hx, hb, hml, hr, hown, hts, hlocks, hK, hinj, hX⟩ := id C0
  obtain ⟨adV, hV⟩ := hX.1
  exact vk_getf hx hb (hV.1 i hi).2.1 hS hown (hts _ hl) (fun x q => q) hd (k p l e s m args below meth c D aC ad C0 H locs lsA hP hS hL)
theorem gj_slen {i index : Nat} (hi : i < 20) (hl : Cond.fieldLink own index "java/lang/String" "value" "[B" ∈ gtb) (hd : decode cc pc = .ok (.getfield index, 3)) (hd2 : decode cc (pc + 3) = .ok (.arraylength, 1)) (hp : pc + 4 = pc') (k : gJ own cc nL rt d pc' ls (.int (zI ((strL.getD i 0 : Nat) : Int)) :: st) h Q) : gJ own cc nL rt d pc ls (.ref (1000 + i) :: st) h Q := by
  subst hp
  intro p l e s m args below meth c D aC ad C0 H locs lsA hP hS hL
  obtain ⟨hx, hb, hml, hr, hown, hts, hlocks, hK, hinj, hX⟩ := id C0
  obtain ⟨adV, hV⟩ := hX.1
  refine vk_getf hx hb (hV.1 i hi).2.2.1 hS hown (hts _ hl) (fun x q => q) hd ?_
  exact va_tlen hx hb (hV.1 i hi).2.2.2 hS (v := zI ((strL.getD i 0 : Nat) : Int)) rfl hd2 (k p l e s m args below meth c D aC ad C0 H locs lsA hP hS hL)
/-- String.checkIndex: the formatter is only carried -/
theorem gj_chk {k n : Nat} (hk : k < n) (hn : n < 100000) (hd0 : 1 < d) (hd : decode cc pc = .ok (.getstatic 1053, 3)) (hd2 : decode cc (pc + 3) = .ok (.invokestatic 1059, 3)) (hp : pc + 6 = pc') (kk : gJ RJ0 cc nL rt d pc' ls [.int (zI (k : Int))] h Q) : gJ RJ0 cc nL rt d pc ls [.int (zI (n : Int)), .int (zI (k : Int))] h Q := by
  subst hp
  intro p l e s m args below meth c D aC ad C0 H locs lsA hP hS2 hL
  obtain ⟨hx, hb, hml, hr, hown, hts, hlocks, hK, hinj, hX⟩ := id C0
  have hok : gOkM yJ3_checkIndex_8e157 3 := ⟨by decide +kernel, by decide +kernel, by decide +kernel⟩
  have hw5 : Cond.code yJ3_checkIndex_8e157 cJ3_checkIndex_8e157 3 (some .int) ∈ gtb := gtb_at 469 (by decide +kernel) rfl
  have go : ∀ f : Value, f.category = 1 → W p l e (rmD d) s m args below meth c H locs 0 0 (MQ below (gQm D aC ad (gA ad s.heap.size) Q) args s 0 0 (gA ad s.heap.size)) (F0 m (pc + 3) lsA (f :: [Value.int (zI (n : Int)), .int (zI (k : Int))])) := fun f hf => by
    have run := va_runS (p := p) (l := l) (e := e) (R := rmD d) (below := below) (meth := meth) (As := [.int (zI (k : Int)), .int (zI (n : Int)), f]) (rest := ([] : List Value).map (gv ad)) (H := H) (locs := locs) (cells := 0) (slots := 0) (mc := 0) (ms := 0) (n := 3) (g := F0 m (pc + 3) lsA (f :: [Value.int (zI (n : Int)), .int (zI (k : Int))])) ⟨hx, hb, hml, hown, hts⟩ (s_pcheck (h := h) hf hk hn l D aC ad H.size hinj)
      ⟨⟨rfl, rfl, hd0, by show 8 + (3 + 11) + 64 * 1 ≤ 64 * d; omega, fun w hw a' U hW => gtb_warm hts hW w (gtb_ws hw5 w hw) a', List.mem_cons_self, hts _ hw5, hts _ (gtb_at 15 (by decide +kernel) rfl), ⟨hok.1, hok.2.1⟩, gOkM_len hok, hts _ (gtb_at 467 (by decide +kernel) rfl)⟩, hts _ (gtb_at 468 (by decide +kernel) rfl)⟩
      ⟨gPre_blind, fun U hU hW => ⟨rfl, gPre_of C0 hP hS2 U hU hW⟩⟩ rfl rfl hL.size rfl (lv_room (by simp)) hd2 ⟨Nat.le_refl 0, Nat.le_refl 0⟩
    exact gj_cont C0 run hS2 (fun v h' hq' H1 locs1 hP1 hS1 => by
      obtain ⟨rfl, rfl⟩ := hq'
      exact kk p l e s m args below meth c D aC ad C0 H1 locs1 lsA hP1 hS1 hL)
  rcases hX.2.2.2 with z | ⟨t, z⟩
  · exact va_gets (C := "jdk/internal/util/Preconditions") (n := "SIOOBE_FORMATTER") (d := "Ljava/util/function/BiFunction;") hx hb z hS2 hown (hts _ (gtb_at 465 (by decide +kernel) rfl)) (fun x q => q) hd (go .null rfl)
  · exact va_gets (C := "jdk/internal/util/Preconditions") (n := "SIOOBE_FORMATTER") (d := "Ljava/util/function/BiFunction;") hx hb z hS2 hown (hts _ (gtb_at 465 (by decide +kernel) rfl)) (fun x q => q) hd (go (.ref t) rfl)
end STR
theorem s_check {h : gH} {k n : Nat} (hk : k < n) (hn : n < 100000) : gSp 2 yJ0_checkIndex_df160 cJ0_checkIndex_df160 2 none [.int (zI (k : Int)), .int (zI (n : Int))] h (fun v h' => v = none ∧ h' = h) := by
  refine gSp_of (by decide +kernel) (Nat.le_of_ble_eq_true rfl) ?_
  show gJ RJ0 cJ0_checkIndex_df160 2 none _ 0 [some (.int (zI (k : Int))), some (.int (zI (n : Int)))] [] _ _
  refine gj_iload_n (pc' := 1) dJ0_checkIndex_df160_0 rfl rfl ?_
  refine gj_iload_n (pc' := 2) dJ0_checkIndex_df160_1 rfl rfl ?_
  refine gj_chk (pc' := 8) hk hn (by decide) dJ0_checkIndex_df160_2 dJ0_checkIndex_df160_5 rfl ?_
  refine gj_pop (pc' := 9) dJ0_checkIndex_df160_8 rfl rfl ?_
  refine gj_vret rfl dJ0_checkIndex_df160_9 ?_
  exact ⟨rfl, rfl⟩
/-- the k-th sign of the i-th text -/
def chV (i k : Nat) : Int32 := (strB.getD i []).getD k 0
def chN (i k : Nat) : Int := (chV i k).toInt
theorem ch_key : ∀ i, i < 20 → ∀ k, k < strL.getD i 0 → ((chV i k &&& zI 255).toUInt32 % 65536).toInt32 = chV i k ∧ narrow .char (.int (chV i k)) = .int (chV i k) := by decide +kernel
theorem str_len : ∀ i, i < 20 → strL.getD i 0 ≤ 20 := by decide +kernel
def gPT (D : va_G) (aC : Nat → ClassId) (ad : Nat → Nat) (sz : Nat) (h : gH) (t i : Nat) (U : State) : Prop := gPre D aC ad sz h U ∧ va_T .byte t (strL.getD i 0) (fun j => .int ((strB.getD i []).getD j 0)) (gA ad sz) U U.heap
theorem gPT_blind {D : va_G} {aC : Nat → ClassId} {ad : Nat → Nat} {sz t i : Nat} {h : gH} {av : List Value} : FrameBlind (va_Pc av (gPT D aC ad sz h t i)) := by
  intro a U g mk q
  obtain ⟨q0, q1, q2⟩ := q
  have := (gPre_blind (D := D) (aC := aC) (ad := ad) (sz := sz) (h := h) (av := av)) a U g mk ⟨q0, q1⟩
  exact ⟨this.1, this.2, va_T.moved (u := U) (U := U.calling g mk a) (Vm.Alike.refl U.vm) q2⟩
theorem s_l1 {h : gH} {i k : Nat} (hi : i < 20) (hk : k < strL.getD i 0) (l : Launch) (D : va_G) (aC : Nat → ClassId) (ad : Nat → Nat) (sz t : Nat) (hinj : gInj ad) : Met l yJ1_charAt_3b067 (Cond.code yJ1_charAt_3b067 cJ1_charAt_3b067 2 (some .char) :: gtb) (rmD 3) (va_Pc [.ref t, .int (zI (k : Int))] (gPT D aC ad sz h t i)) (gQm D aC ad (gA ad sz) (gR (.int (chV i k)) h)) 0 0 (gA ad sz) := by
  have hlen := str_len i hi
  obtain ⟨hc1, hc2⟩ := ch_key i hi k hk
  refine Met.ofW (cc := cJ1_charAt_3b067) (maxL := 2) (ret := some .char) (by decide +kernel) rfl ?_
  intro p e s m argsA below meth c s₁ B hml hv
  obtain ⟨rfl, ⟨hsz, hP, hK, hX⟩, hT⟩ := hv
  have hts : ∀ w ∈ gtb, w.before ([Value.ref t, .int (zI (k : Int))].toArray) s = true := fun w hw => atoms_spec (ws := Cond.code yJ1_charAt_3b067 cJ1_charAt_3b067 2 (some .char) :: gtb) B.pre w (List.mem_cons_of_mem _ hw)
  have hown : s.vm.findClass yJ1_charAt_3b067.cls = some m.cls := findClass_of_methodNamed B.named
  subst hsz
  have hl := lv_entry [Value.ref t, .int (zI (k : Int))] (n := 2) (Nat.le_of_ble_eq_true rfl)
  rw [lg_entry_eq]
  have C0 : gCx RJ1 cJ1_charAt_3b067 2 (some .char) p s m ([Value.ref t, .int (zI (k : Int))].toArray) meth c D aC ad := ⟨B.exec, B.bytes, hml, B.returns, hown, hts, B.notSynchronized, hK, hinj, hX⟩
  obtain ⟨hx, hb, -, hr, -, -, hlocks, -, -, -⟩ := id C0
  have hS0 : va_S (gA ad s.heap.size) s.heap s.heap [] := va_S.rf
  generalize ((lg_sl [Value.ref t, .int (zI (k : Int))] ++ List.replicate (2 - (lg_sl [Value.ref t, .int (zI (k : Int))]).length) Slot.unset).toArray) = lsA at hl
  have l0 : lsA[0]? = some (.val (.ref t)) := lv_at hl 0 rfl
  have l1 : lsA[1]? = some (.val (.int (zI (k : Int)))) := lv_at hl 1 rfl
  refine lv_iload_n hx hb dJ1_charAt_3b067_0 rfl l1 ?_
  refine lv_aload_n hx hb dJ1_charAt_3b067_1 rfl l0 ?_
  refine va_tlen hx hb hT hS0 (v := zI ((strL.getD i 0 : Nat) : Int)) rfl dJ1_charAt_3b067_2 ?_
  have hok : gOkM yJ0_checkIndex_df160 2 := ⟨by decide +kernel, by decide +kernel, by decide +kernel⟩
  have hw5 : Cond.code yJ0_checkIndex_df160 cJ0_checkIndex_df160 2 none ∈ gtb := gtb_at 464 (by decide +kernel) rfl
  have run := va_runS (p := p) (l := l) (e := e) (R := rmD 3) (below := below) (meth := meth) (As := [.int (zI (k : Int)), .int (zI ((strL.getD i 0 : Nat) : Int))]) (rest := ([] : List Value).map (gv ad)) (H := s.heap) (locs := []) (cells := 0) (slots := 0) (mc := 0) (ms := 0) (n := 2) (g := F0 m 3 lsA [Value.int (zI ((strL.getD i 0 : Nat) : Int)), .int (zI (k : Int))]) ⟨hx, hb, hml, hown, hts⟩ (s_check (h := h) hk (by omega) l D aC ad s.heap.size hinj)
    ⟨⟨rfl, rfl, by decide, by decide, fun w hw a' U hW => gtb_warm hts hW w (gtb_ws hw5 w hw) a', List.mem_cons_self, hts _ hw5, hts _ (gtb_at 13 (by decide +kernel) rfl), ⟨hok.1, hok.2.1⟩, gOkM_len hok, hts _ (gtb_at 462 (by decide +kernel) rfl)⟩, hts _ (gtb_at 463 (by decide +kernel) rfl)⟩
    ⟨gPre_blind, fun U hU hW => ⟨rfl, gPre_of C0 hP hS0 U hU hW⟩⟩ rfl rfl hl.1 rfl (lv_room (by simp)) dJ1_charAt_3b067_3 ⟨Nat.le_refl 0, Nat.le_refl 0⟩
  refine gj_cont C0 run hS0 (fun v h' hq' H1 locs1 hP1 hS1 => ?_)
  obtain ⟨rfl, rfl⟩ := hq'
  refine lv_aload_n hx hb dJ1_charAt_3b067_6 rfl l0 ?_
  refine lv_iload_n hx hb dJ1_charAt_3b067_7 rfl l1 ?_
  refine va_tb hx hb hT hS1 (v := .int (chV i k)) (zI_in (by omega) (by omega)) (by rw [zI_clamp (by omega), Int.toNat_natCast]; rfl) dJ1_charAt_3b067_8 ?_
  refine lv_sipush (v := zI 255) hx hb dJ1_charAt_3b067_9 rfl ?_
  refine lv_iand hx hb dJ1_charAt_3b067_12 ?_
  refine lv_i2c hx hb dJ1_charAt_3b067_13 hc1 ?_
  exact W.zret (v := chV i k) (ty := .char) hx hb hr hc2 (fun t2 ht2 hW => ⟨⟨some (.int (chV i k)), h', rfl, ⟨rfl, rfl⟩, by rw [ht2]; exact hP1⟩, hS1.F ht2⟩) hS1.2.2 dJ1_charAt_3b067_14 hlocks
theorem s_coder {h : gH} {i : Nat} (hi : i < 20) : gSp 1 yJ0_coder_7d493 cJ0_coder_7d493 1 (some .byte) [.ref (1000 + i)] h (gR (.int (zI 0)) h) := by
  refine gSp_of (by decide +kernel) (Nat.le_of_ble_eq_true rfl) ?_
  show gJ RJ0 cJ0_coder_7d493 1 (some .byte) _ 0 [some (.ref (1000 + i))] [] _ _
  refine gj_compact (pc' := 3) (gtb_at 449 (by decide +kernel) rfl) dJ0_coder_7d493_0 rfl ?_
  refine gj_if_eq (pc' := 6) (tgt := 13) dJ0_coder_7d493_3 (by decide) rfl (by omega) (fun c3 => ?_) (fun c3 => ?_)
  · exfalso; omega
  · refine gj_aload_n (pc' := 7) dJ0_coder_7d493_6 rfl rfl ?_
    refine gj_scoder (pc' := 10) hi (gtb_at 1935 (by decide +kernel) rfl) dJ0_coder_7d493_7 rfl ?_
    refine gj_goto (pc' := 14) dJ0_coder_7d493_10 (by decide) ?_
    refine gj_zret rfl rfl dJ0_coder_7d493_14 ?_
    exact ⟨rfl, rfl⟩
theorem s_isLatin1 {h : gH} {i : Nat} (hi : i < 20) : gSp 1 yJ0_isLatin1_aae02 cJ0_isLatin1_aae02 1 (some .boolean) [.ref (1000 + i)] h (gR (.int (zI 1)) h) := by
  refine gSp_of (by decide +kernel) (Nat.le_of_ble_eq_true rfl) ?_
  show gJ RJ0 cJ0_isLatin1_aae02 1 (some .boolean) _ 0 [some (.ref (1000 + i))] [] _ _
  refine gj_compact (pc' := 3) (gtb_at 449 (by decide +kernel) rfl) dJ0_isLatin1_aae02_0 rfl ?_
  refine gj_if_eq (pc' := 6) (tgt := 17) dJ0_isLatin1_aae02_3 (by decide) rfl (by omega) (fun c3 => ?_) (fun c3 => ?_)
  · exfalso; omega
  · refine gj_aload_n (pc' := 7) dJ0_isLatin1_aae02_6 rfl rfl ?_
    refine gj_scoder (pc' := 10) hi (gtb_at 1935 (by decide +kernel) rfl) dJ0_isLatin1_aae02_7 rfl ?_
    refine gj_if_ne (pc' := 13) (tgt := 17) dJ0_isLatin1_aae02_10 (by decide) rfl (by omega) (fun c10 => ?_) (fun c10 => ?_)
    · exfalso; omega
    · refine gj_iconst (pc' := 14) dJ0_isLatin1_aae02_13 rfl ?_
      refine gj_goto (pc' := 18) dJ0_isLatin1_aae02_14 (by decide) ?_
      refine gj_zret rfl rfl dJ0_isLatin1_aae02_18 ?_
      exact ⟨rfl, rfl⟩
theorem s_strlen {h : gH} {i : Nat} (hi : i < 20) : gSp 2 yJ0_length_8abf5 cJ0_length_8abf5 1 (some .int) [.ref (1000 + i)] h (gR (.int (zI ((strL.getD i 0 : Nat) : Int))) h) := by
  have hlen := str_len i hi
  refine gSp_of (by decide +kernel) (Nat.le_of_ble_eq_true rfl) ?_
  show gJ RJ0 cJ0_length_8abf5 1 (some .int) _ 0 [some (.ref (1000 + i))] [] _ _
  refine gj_aload_n (pc' := 1) dJ0_length_8abf5_0 rfl rfl ?_
  refine gj_slen (pc' := 5) hi (gtb_at 1934 (by decide +kernel) rfl) dJ0_length_8abf5_1 dJ0_length_8abf5_4 rfl ?_
  refine gj_aload_n (pc' := 6) dJ0_length_8abf5_5 rfl rfl ?_
  refine gj_callT (pc' := 9) (s_coder hi) (show gOkM yJ0_coder_7d493 0 from ⟨by decide +kernel, by decide +kernel, by decide +kernel⟩) (gtb_at 445 (by decide +kernel) rfl) (gtb_at 446 (by decide +kernel) rfl) (gtb_at 447 (by decide +kernel) rfl) (gtb_at 13 (by decide +kernel) rfl) (gtb_at 448 (by decide +kernel) rfl) (by decide) hi (by decide) rfl (Nat.le_of_ble_eq_true rfl) dJ0_length_8abf5_6 rfl (gR_k ?_)
  refine gj_ishr (pc' := 10) dJ0_length_8abf5_9 rfl ?_
  refine gj_iret rfl dJ0_length_8abf5_10 ?_
  have e := bt_shr (m := strL.getD i 0) (b := 0) (by omega) (by decide)
  rw [Nat.pow_zero, Nat.div_one] at e
  exact ⟨congrArg (fun z => some (Value.int (zI z))) e, rfl⟩
theorem s_charAt {h : gH} {i k : Nat} (hi : i < 20) (hk : k < strL.getD i 0) : gSp 4 yJ0_charAt_5068e cJ0_charAt_5068e 2 (some .char) [.ref (1000 + i), .int (zI (k : Int))] h (gR (.int (zI (chN i k))) h) := by
  have hlen := str_len i hi
  have ech : zI (chN i k) = chV i k := zI_of _
  refine gSp_of (by decide +kernel) (Nat.le_of_ble_eq_true rfl) ?_
  show gJ RJ0 cJ0_charAt_5068e 2 (some .char) _ 0 [some (.ref (1000 + i)), some (.int (zI (k : Int)))] [] _ _
  refine gj_aload_n (pc' := 1) dJ0_charAt_5068e_0 rfl rfl ?_
  refine gj_callT (pc' := 4) (s_isLatin1 hi) (show gOkM yJ0_isLatin1_aae02 0 from ⟨by decide +kernel, by decide +kernel, by decide +kernel⟩) (gtb_at 455 (by decide +kernel) rfl) (gtb_at 456 (by decide +kernel) rfl) (gtb_at 457 (by decide +kernel) rfl) (gtb_at 13 (by decide +kernel) rfl) (gtb_at 458 (by decide +kernel) rfl) (by decide) hi (by decide) rfl (Nat.le_of_ble_eq_true rfl) dJ0_charAt_5068e_1 rfl (gR_k ?_)
  refine gj_if_eq (pc' := 7) (tgt := 16) dJ0_charAt_5068e_4 (by decide) rfl (by omega) (fun c3 => ?_) (fun c3 => ?_)
  · exfalso; omega
  · refine gj_aload_n (pc' := 8) dJ0_charAt_5068e_7 rfl rfl ?_
    intro p l e s m args below meth c D aC ad C0 H locs lsA hP hS2 hL
    obtain ⟨hx, hb, hml, hr, hown, hts, hlocks, hK, hinj, hX⟩ := id C0
    obtain ⟨adV, hV⟩ := hX.1
    have hok : gOkM yJ1_charAt_3b067 2 := ⟨by decide +kernel, by decide +kernel, by decide +kernel⟩
    have hw5 : Cond.code yJ1_charAt_3b067 cJ1_charAt_3b067 2 (some .char) ∈ gtb := gtb_at 461 (by decide +kernel) rfl
    refine vk_getf hx hb (hV.1 i hi).2.2.1 hS2 hown (hts _ (gtb_at 1934 (by decide +kernel) rfl)) (fun x q => q) dJ0_charAt_5068e_8 ?_
    refine lv_iload_n hx hb dJ0_charAt_5068e_11 rfl (hL.at (i := 1) rfl) ?_
    have run := va_runS (p := p) (l := l) (e := e) (R := rmD 4) (below := below) (meth := meth) (As := [.ref (adV i), .int (zI (k : Int))]) (rest := ([] : List Value).map (gv ad)) (H := H) (locs := locs) (cells := 0) (slots := 0) (mc := 0) (ms := 0) (n := 2) (g := F0 m 12 lsA [Value.int (zI (k : Int)), .ref (adV i)]) ⟨hx, hb, hml, hown, hts⟩ (s_l1 (h := h) hi hk l D aC ad H.size (adV i) hinj)
      ⟨⟨rfl, rfl, by decide, by decide, fun w hw a' U hW => gtb_warm hts hW w (gtb_ws hw5 w hw) a', List.mem_cons_self, hts _ hw5, hts _ (gtb_at 14 (by decide +kernel) rfl), ⟨hok.1, hok.2.1⟩, gOkM_len hok, hts _ (gtb_at 459 (by decide +kernel) rfl)⟩, hts _ (gtb_at 460 (by decide +kernel) rfl)⟩
      ⟨gPT_blind, fun U hU hW => ⟨rfl, gPre_of C0 hP hS2 U hU hW, by
        rw [hU]
        exact (((hV.1 i hi).2.2.2.moved hW.alike).kept hS2.2.1).narrow (gA_mono hS2.1)⟩⟩ rfl rfl hL.size rfl (lv_room (by simp)) dJ0_charAt_5068e_12 ⟨Nat.le_refl 0, Nat.le_refl 0⟩
    refine gj_cont C0 run hS2 (fun v h' hq' H1 locs1 hP1 hS1 => ?_)
    obtain ⟨rfl, rfl⟩ := hq'
    obtain ⟨-, hc2⟩ := ch_key i hi k hk
    refine gj_zret (x := chV i k) rfl hc2 dJ0_charAt_5068e_15 ?_ p l e s m args below meth c D aC ad C0 H1 locs1 lsA hP1 hS1 hL
    exact ⟨by rw [ech], rfl⟩
