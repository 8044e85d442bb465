/-! the law's start: the first state keeps the invariant; the whole walk -/
theorem st_LI : LI2 gh0 := by
  have nz : ∀ {P : Prop} {k : Nat}, k < 0 → P := fun h => absurd h (Nat.not_lt_zero _)
  have sv : stV (fun _ => 0) ((fun _ => 0, (0, fun _ _ => 0), (0, fun _ _ => 0)) : gSt) := ⟨fun k h => nz h, fun k h => nz h, by decide, by decide, fun _ => ⟨rfl, rfl⟩⟩
  refine ⟨29, 0, fun _ => 0, fun _ => 0, (fun _ => 0, (0, fun _ _ => 0), (0, fun _ _ => 0)), 0, ⟨?_, ?_, sv⟩, ⟨?_, ?_, sv⟩, fun h => absurd rfl h, ?_, ?_, ?_, rfl, ⟨rfl, rfl, by decide⟩, rfl, fun h => absurd h (by decide)⟩
  · exact ⟨Or.inr rfl, rfl, ⟨rfl, rfl, rfl⟩, ⟨by decide, by decide, by decide⟩, Or.inl ⟨rfl, rfl, rfl⟩⟩
  · exact ⟨0, by decide, by decide, by decide, rfl, rfl, rfl, fun k h => nz h, fun k h => nz h⟩
  · exact ⟨⟨fun _ _ => rfl, fun _ _ => rfl⟩, rfl, ⟨by decide, by decide, by decide⟩, Or.inl ⟨rfl, rfl, rfl⟩⟩
  · exact ⟨rfl, rfl, by decide, by decide, fun k h => nz h, fun k h => nz h⟩
  · exact ⟨⟨rfl, rfl, rfl⟩, rfl, ⟨rfl, rfl⟩, fun _ => ⟨rfl, rfl, rfl, rfl, rfl, rfl⟩⟩
  · exact ⟨by decide, rfl, fun k h => nz h⟩
  · exact ⟨by decide, rfl, fun k h => nz h⟩
set_option maxRecDepth 20000 in
theorem ESF_len {aC : Nat → ClassId} {z : Nat} : (ESF aC z).length = 157 := rfl
theorem st_P {D : va_G} {aC : Nat → ClassId} {z b : Nat} {tk : Nat → Nat} {H : Heap} (hP : va_P D vwCl (lay z (ES aC z)) H) : va_P D vwCl (gw aC (adS z b tk) gh0) H := by
  have h : SA D aC z H := fun K hK => by
    refine hP K _ ?_
    rw [lay_get, ES_flat, vsel_at _ K (by rw [ESF_len]; exact hK)]
    rfl
  intro k q hq
  have hk : k < NN := by
    have := (List.getElem?_eq_some_iff.mp hq).1
    simpa [gw] using this
  rw [gw_at hk] at hq
  cases hq
  show SG D aC z b tk H k
  unfold NN at hk
  match k, hk with
  | 0, _ => exact sg_0 h
  | 1, _ => exact sg_1 h
  | 2, _ => exact sg_2 h
  | 3, _ => exact sg_3 h
  | 4, _ => exact sg_4 h
  | 5, _ => exact sg_5 h
  | 6, _ => exact sg_6 h
  | 7, _ => exact sg_7 h
  | 8, _ => exact sg_8 h
  | 9, _ => exact sg_9 h
  | 10, _ => exact sg_10 h
  | 11, _ => exact sg_11 h
  | 12, _ => exact sg_12 h
  | 13, _ => exact sg_13 h
  | 14, _ => exact sg_14 h
  | 15, _ => exact sg_15 h
  | 16, _ => exact sg_16 h
  | 17, _ => exact sg_17 h
  | 18, _ => exact sg_18 h
  | 19, _ => exact sg_19 h
  | 20, _ => exact sg_20 h
  | 21, _ => exact sg_21 h
  | 22, _ => exact sg_22 h
  | 23, _ => exact sg_23 h
  | 24, _ => exact sg_24 h
  | 25, _ => exact sg_25 h
  | 26, _ => exact sg_26 h
  | 27, _ => exact sg_27 h
  | 28, _ => exact sg_28 h
  | 29, _ => exact sg_29 h
  | 30, _ => exact sg_30 h
  | 31, _ => exact sg_31 h
  | 32, _ => exact sg_32 h
  | 33, _ => exact sg_33 h
  | 34, _ => exact sg_34 h
  | 35, _ => exact sg_35 h
  | 36, _ => exact sg_36 h
  | 37, _ => exact sg_37 h
  | 38, _ => exact sg_38 h
  | 39, _ => exact sg_39 h
  | 40, _ => exact sg_40 h
  | 41, _ => exact sg_41 h
  | 42, _ => exact sg_42 h
  | 43, _ => exact sg_43 h
  | 44, _ => exact sg_44 h
  | 45, _ => exact sg_45 h
  | 46, _ => exact sg_46 h
  | 47, _ => exact sg_47 h
  | 48, _ => exact sg_48 h
  | 49, _ => exact sg_49 h
  | 50, _ => exact sg_50 h
  | 51, _ => exact sg_51 h
  | 52, _ => exact sg_52 h
  | 53, _ => exact sg_53 h
  | 54, _ => exact sg_54 h
  | 55, _ => exact sg_55 h
  | 56, _ => exact sg_56 h
  | 57, _ => exact sg_57 h
  | 58, _ => exact sg_58 h
  | 59, _ => exact sg_59 h
  | 60, _ => exact sg_60 h
  | 61, _ => exact sg_61 h
  | 62, _ => exact sg_62 h
  | 63, _ => exact sg_63 h
  | 64, _ => exact sg_64 h
  | 65, _ => exact sg_65 h
  | 66, _ => exact sg_66 h
  | 67, _ => exact sg_67 h
  | 68, _ => exact sg_68 h
  | 69, _ => exact sg_69 h
  | 70, _ => exact sg_70 h
  | 71, _ => exact sg_71 h
  | 72, _ => exact sg_72 h
  | 73, _ => exact sg_73 h
  | 74, _ => exact sg_74 h
  | 75, _ => exact sg_75 h
  | 76, _ => exact sg_76 h
  | 77, _ => exact sg_77 h
  | 78, _ => exact sg_78 h
  | 79, _ => exact sg_79 h
  | 80, _ => exact sg_80 h
  | 81, _ => exact sg_81 h
  | 82, _ => exact sg_82 h
  | 83, _ => exact sg_83 h
  | 84, _ => exact sg_84 h
  | 85, _ => exact sg_85 h
  | 86, _ => exact sg_86 h
  | 87, _ => exact sg_87 h
  | 88, _ => exact sg_88 h
  | 89, _ => exact sg_89 h
  | 90, _ => exact sg_90 h
  | 91, _ => exact sg_91 h
  | 92, _ => exact sg_92 h
  | 93, _ => exact sg_93 h
  | 94, _ => exact sg_94 h
  | 95, _ => exact sg_95 h
  | 96, _ => exact sg_96 h
  | 97, _ => exact sg_97 h
  | 98, _ => exact sg_98 h
  | 99, _ => exact sg_99 h
  | 100, _ => exact sg_100 h
  | 101, _ => exact sg_101 h
  | 102, _ => exact sg_102 h
  | 103, _ => exact sg_103 h
  | 104, _ => exact sg_104 h
  | 105, _ => exact sg_105 h
  | 106, _ => exact sg_106 h
  | 107, _ => exact sg_107 h
  | 108, _ => exact sg_108 h
  | 109, _ => exact sg_109 h
  | 110, _ => exact sg_110 h
  | 111, _ => exact sg_111 h
  | 112, _ => exact sg_112 h
  | 113, _ => exact sg_113 h
  | 114, _ => exact sg_114 h
  | 115, _ => exact sg_115 h
  | 116, _ => exact sg_116 h
  | 117, _ => exact sg_117 h
  | 118, _ => exact sg_118 h
  | 119, _ => exact sg_119 h
  | 120, _ => exact sg_120 h
  | 121, _ => exact sg_121 h
  | 122, _ => exact sg_122 h
  | 123, _ => exact sg_123 h
  | 124, _ => exact sg_124 h
  | 125, _ => exact sg_125 h
  | 126, _ => exact sg_126 h
  | 127, _ => exact sg_127 h
  | 128, _ => exact sg_128 h
  | 129, _ => exact sg_129 h
  | 130, _ => exact sg_130 h
  | 131, _ => exact sg_131 h
  | 132, _ => exact sg_132 h
  | 133, _ => exact sg_133 h
  | 134, _ => exact sg_134 h
  | 135, _ => exact sg_135 h
  | 136, _ => exact sg_136 h
  | 137, _ => exact sg_137 h
  | 138, _ => exact sg_138 h
  | 139, _ => exact sg_139 h
  | 140, _ => exact sg_140 h
  | 141, _ => exact sg_141 h
  | 142, _ => exact sg_142 h
  | 143, _ => exact sg_143 h
  | 144, _ => exact sg_144 h
  | 145, _ => exact sg_145 h
  | 146, _ => exact sg_146 h
  | 147, _ => exact sg_147 h
  | 148, _ => exact sg_148 h
  | 149, _ => exact sg_149 h
  | 150, _ => exact sg_150 h
  | 151, _ => exact sg_151 h
  | 152, _ => exact sg_152 h
  | 153, _ => exact sg_153 h
  | 154, _ => exact sg_154 h
  | 155, _ => exact sg_155 h
  | 156, _ => exact sg_156 h
  | k + 157, hk => exact absurd hk (by omega)
theorem st_end {p : Program} {l : Launch} {e : Env} {s : State} {m : MethodId} {below : List Frame} {meth : Method} {c : Code} {D : va_G} {aC : Nat → ClassId} {b L : Nat} {xs : Nat → Int32} {adK adV : Nat → Nat} (hflags : l.flags = flags0) (hL3 : L ≤ 3072) (C0 : lw_At p s m meth c b L xs) (hK : va_K D vwCl (gtys aC) s) (hS1 : vk_S 20 strL strB adK adV (fun q => s.heap.size ≤ q) s s.heap) (hS2 : ∀ q ∈ strT, vk_R q.1 q.2.1 q.2.2.1 (adK q.2.2.2) s) (hS3 : va_Z "java/lang/String" "COMPACT_STRINGS" "Z" (.int 1) (fun q => s.heap.size ≤ q) s s.heap ∧ va_Zq "jdk/internal/util/Preconditions" "SIOOBE_FORMATTER" "Ljava/util/function/BiFunction;" (fun q => s.heap.size ≤ q) s s.heap) {E : List va_E} (hE : E = ES aC s.heap.size) {x2 x3 : Nat} (h2 : x2 = 142) (h3 : x3 = 156) : sJ p l e s m #[Value.ref b] below meth c D 23 5128 [some (.ref b), some (.ref (s.heap.size + 0)), some (.ref (s.heap.size + x2)), some (.ref (s.heap.size + x3)), some (.int (zI 0)), none, none] [] E := by
  subst hE; subst h2; subst h3
  obtain ⟨hx, hb, hr, hml, hown, hlt, hX, hbl, hlocks, hgv⟩ := C0
  have hts : ∀ w ∈ gtb, w.before #[Value.ref b] s = true := fun w hw => hlt w (List.mem_filter.mp hw).1
  have hge : ∀ i, i < NN → s.heap.size ≤ adS s.heap.size b adK i := fun i hi => adS_ge i hi
  have hAB : ∀ q, gA (adS s.heap.size b adK) s.heap.size q → s.heap.size ≤ q := fun q h => lA hge h
  have hSn := hS1.narrow hAB
  have gx : gX (adS s.heap.size b adK) (gA (adS s.heap.size b adK) s.heap.size) s s.heap := by
    refine ⟨⟨adV, fun i hi => ?_, fun i j hi hj h => ?_⟩, fun q hq => ?_, hS3.1.narrow hAB, hS3.2.narrow hAB⟩
    · dsimp only
      rw [adS_tx hi]
      exact hSn.1 i hi
    · dsimp only at h
      rw [adS_tx hi, adS_tx hj] at h
      exact hSn.2 i j hi hj h
    · rw [adS_tx (stW3 q hq).1]
      exact hS2 q hq
  intro H locs lsA hP hS hL
  have hlen : (ES aC s.heap.size).length = 157 := by rw [ES_flat]; rfl
  rw [hlen]
  refine lw_loop (L := L) (xs := xs) hL3 512 0 157 5128 gh0 (by omega) (by omega) (by decide) (by decide) st_LI p l e s m #[Value.ref b] below meth c D aC (adS s.heap.size b adK) ⟨⟨hx, hb, hml, hr, hown, hts, hlocks, hK, adS_inj, gx⟩, ⟨rfl, hX, hbl, hge⟩, hL3, hflags, hlt, hgv⟩ H locs lsA (st_P hP) ⟨hS.1, fun q g1 g2 => hS.2.1 q g1 (fun g => absurd g (by omega)), fun q hq => Or.inr (hS.2.2 q hq)⟩ ?_
  obtain ⟨lv, g1, g2⟩ := hL
  refine ⟨lv, g1, fun i v hi => ?_⟩
  match i with
  | 0 => cases hi; exact g2 0 (.ref b) rfl
  | 1 => cases hi; exact g2 1 (.ref (s.heap.size + 0)) rfl
  | 2 => cases hi; exact g2 2 (.ref (s.heap.size + 142)) rfl
  | 3 => cases hi; exact g2 3 (.ref (s.heap.size + 156)) rfl
  | 4 => cases hi; exact g2 4 (.int (zI 0)) rfl
  | 5 => cases hi
  | 6 => cases hi
  | i + 7 => cases hi
set_option maxRecDepth 20000 in
theorem whole_start {p : Program} {e : Env} {s : State} {m : MethodId} {below : List Frame} {meth : Method} {c : Code} (l : Launch) (hflags : l.flags = flags0) {b L : Nat} {xs : Nat → Int32} (hL : L ≤ 3072) (C0 : lw_At p s m meth c b L xs) : W p l e room_1 s m #[Value.ref b] below meth c s.heap [] 0 0 (lw_Z below #[Value.ref b] s) (entryFrame m ([Value.ref b] : List Value).toArray 7) := by
  obtain ⟨hx, hb, hr, hml, hown, hlt, hX, hbl, hlocks, hgv⟩ := id C0
  obtain ⟨D, aC, hK, hO⟩ := st_K hlt
  have hA0 : ∀ a : Nat, a < s.heap.size → ¬ (fun q => s.heap.size ≤ q) a := fun a h g => absurd (show s.heap.size ≤ a from g) (by omega)
  obtain ⟨adK, adV, hS1, hS2⟩ := st_texts hlt hgv hA0
  have hS3 := st_stat hlt hgv hA0
  have hts : ∀ w ∈ gtb, w.before #[Value.ref b] s = true := fun w hw => hlt w (List.mem_filter.mp hw).1
  have C : sCx p s m #[Value.ref b] c D aC := ⟨hx, hb, hml, hown, hts, hK, hO⟩
  have k : sJ p l e s m #[Value.ref b] below meth c D 0 0 [some (.ref b), none, none, none, none, none, none] [] [] := by
    refine sj_new (pc' := 3) (C' := RX10) (T := TX10) (N := 10) (cj := 9) (f0 := dfX10) C dL_law_0 rfl (gtb_at 24 (by decide +kernel) rfl) (gtb_at 25 (by decide +kernel) rfl) (gtb_at 1 (by decide +kernel) rfl) tyX10 tyX10_ok iX10g rfl dfX10_ok (by decide) (by decide) ?_
    refine sj_dup (pc' := 4) C dL_law_3 rfl rfl ?_
    refine sj_init (pc' := 7) (es := []) C n_X10 dL_law_4 rfl rfl okn_X10 (gtb_at 26 (by decide +kernel) rfl) (gtb_at 27 (by decide +kernel) rfl) (gtb_at 1 (by decide +kernel) rfl) (gtb_at 28 (by decide +kernel) rfl) (by decide) (by decide) (Nat.le_of_ble_eq_true rfl) rfl (by decide) (by decide) ?_
    obtain ⟨E, hE⟩ : ∃ E, E = ([] : List va_E) ++ [(.inr (9, (nF_X10 aC (s.heap.size + (([] : List va_E).length + 1))).1) : va_E)] ++ (nF_X10 aC (s.heap.size + (([] : List va_E).length + 1))).2 := ⟨_, rfl⟩
    rw [← hE]
    have hl : E.length = 142 := by rw [hE, List.length_append]; rfl
    refine sj_astore_n (pc' := 8) C dL_law_7 rfl (by decide) ?_
    refine sj_new (pc' := 11) (C' := RX11) (T := TX11) (N := 35) (cj := 10) (f0 := dfX11) C dL_law_8 rfl (gtb_at 1269 (by decide +kernel) rfl) (gtb_at 1270 (by decide +kernel) rfl) (gtb_at 11 (by decide +kernel) rfl) tyX11 tyX11_ok iX11g rfl dfX11_ok (by omega) (by decide) ?_
    refine sj_dup (pc' := 12) C dL_law_11 rfl rfl ?_
    refine sj_init (pc' := 15) (es := E) C n_X11 dL_law_12 rfl rfl okn_X11 (gtb_at 1271 (by decide +kernel) rfl) (gtb_at 1272 (by decide +kernel) rfl) (gtb_at 11 (by decide +kernel) rfl) (gtb_at 1273 (by decide +kernel) rfl) (by decide) (by decide) (Nat.le_of_ble_eq_true rfl) rfl (by omega) (by decide) ?_
    obtain ⟨E2, hE2⟩ : ∃ E2, E2 = E ++ [(.inr (10, (nF_X11 aC (s.heap.size + (E.length + 1))).1) : va_E)] ++ (nF_X11 aC (s.heap.size + (E.length + 1))).2 := ⟨_, rfl⟩
    rw [← hE2]
    have hl2 : E2.length = 156 := by rw [hE2, List.length_append, List.length_append, hl]; rfl
    refine sj_astore_n (pc' := 16) C dL_law_15 rfl (by decide) ?_
    refine sj_iconst (pc' := 17) C dL_law_16 rfl ?_
    refine sj_newa (pc' := 19) (atype := .long) (ty := .long) (k := 2) (N := 1) (a0 := ((1, .inr (.inl (fun _ => 0))) : vp_A)) C dL_law_17 rfl rfl rfl (gtb_at 137 (by decide +kernel) rfl) (fun _ => rfl) (by decide) (by decide) (by omega) (by decide) ?_
    refine sj_astore_n (pc' := 20) C dL_law_19 rfl (by decide) ?_
    refine sj_iconst (pc' := 21) C dL_law_20 rfl ?_
    refine sj_istore (pc' := 23) C dL_law_21 rfl (by decide) ?_
    exact st_end hflags hL C0 hK hS1 hS2 hS3 (by rw [hE2, hl, hE]; rfl) hl hl2
  have hl := lv_entry ([Value.ref b]) (n := 7) (by show 1 ≤ 7; decide)
  rw [lg_entry_eq]
  refine k s.heap [] _ (fun k q hq => by cases hq) va_S.rf ⟨_, hl, fun i v hi => ?_⟩
  match i with
  | 0 => cases hi; exact List.mem_cons_self
  | 1 => cases hi
  | 2 => cases hi
  | 3 => cases hi
  | 4 => cases hi
  | 5 => cases hi
  | 6 => cases hi
  | i + 7 => cases hi
