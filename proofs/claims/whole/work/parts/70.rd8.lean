/-! the class's Reader: the line of a bird -/
theorem ptK_b {B : Nat → Nat} {e p : Nat} (g : (ptK B e p).1 = 0) : (ptK B e p).2.1 ≤ 3 := by
  have hr : ptK B e p = if tIs B e p 10 = true then (0, 0, tEn B e p) else if tIs B e p 11 = true then (0, 1, tEn B e p) else if tIs B e p 12 = true then (0, 2, tEn B e p) else if tIs B e p 13 = true then (0, 3, tEn B e p) else (1, tS B e p, 0) := rfl
  by_cases a : tIs B e p 10 = true
  · rw [if_pos a] at hr
    rw [hr]
    exact (by decide : 0 ≤ 3)
  · rw [if_neg a] at hr
    by_cases b : tIs B e p 11 = true
    · rw [if_pos b] at hr
      rw [hr]
      exact (by decide : 1 ≤ 3)
    · rw [if_neg b] at hr
      by_cases c : tIs B e p 12 = true
      · rw [if_pos c] at hr
        rw [hr]
        exact (by decide : 2 ≤ 3)
      · rw [if_neg c] at hr
        by_cases d : tIs B e p 13 = true
        · rw [if_pos d] at hr
          rw [hr]
          exact Nat.le_refl 3
        · rw [if_neg d] at hr
          rw [hr] at g
          exact absurd (show (1 : Nat) = 0 from g) (by decide)
def lnB (B : Nat → Nat) (e : Nat) (T : Nat → Nat) (p : Nat) : Nat × Nat × (Nat → Nat) := bd (ptM B e T (tEn B e p)) (fun _ p1 => bd (ptK B e p1) (fun kd p2 => bd (ptW B e 14 p2) (fun _ p3 => bd (ptH B e (tkN B e T (6 + T 4) (tEn B e p)) (-1) p3) (fun a p4 => bd (ptW B e 15 p4) (fun _ p5 => bd (ptH B e (tkN B e T (6 + T 4) (tEn B e p)) (a : Int) p5) (fun b p6 => bd (ptN B e 16 0 30 p6) (fun d p7 => bd (ptN B e 17 1 60 p7) (fun w p8 => (0, p8, uT (uT (uT (uT (uT (uT (tkN B e T (6 + T 4) (tEn B e p)) (19 + 5 * T 4) kd) (20 + 5 * T 4) a) (21 + 5 * T 4) b) (22 + 5 * T 4) d) (23 + 5 * T 4) w) 4 (T 4 + 1))))))))))
theorem bird_LI {h hz : gH} {B : Nat → Nat} {e p8 t m1 : Nat} {T T1 T' sl1 : Nat → Nat} {kd va vb vd vw : Nat} (ht : isT t) (hTA : TownA h t T) (hSA : StrA h t T) (hL : h.1 1 4 = bI (decide (T 0 ≠ 0))) (hTL : TL T) (h4 : T 4 < 7) (hT' : T' = uT (uT (uT (uT (uT (uT T1 (19 + 5 * T 4) kd) (20 + 5 * T 4) va) (21 + 5 * T 4) vb) (22 + 5 * T 4) vd) (23 + 5 * T 4) vw) 4 (T 4 + 1)) (hlo : ∀ x, x < 75 → T1 x = T x) (zs : ∀ n, n < 16 → (T1 (75 + n) ≠ 0 ↔ T (75 + n) ≠ 0 ∨ n = 6 + T 4)) (hC : CTk hz B e p8) (hN : CN hz T1 m1 sl1) (hU1 : NU T1) (hDz : hz.2.2 1 = t) (hz4 : hz.1 1 4 = h.1 1 4) (ez : ∀ o, 6 ≤ o → o ≠ t + 3 → o ≠ t + 4 → o ≠ t + 5 → o ≠ t + 6 → hz.1 o = h.1 o) (ez3 : hz.1 (t + 3) = up1 (h.1 (t + 3)) (T 4) (kd : Int)) (ez4 : hz.1 (t + 4) = up1 (h.1 (t + 4)) (T 4) (va : Int)) (ez5 : hz.1 (t + 5) = up1 (h.1 (t + 5)) (T 4) (vb : Int)) (ez6 : hz.1 (t + 6) = up1 (h.1 (t + 6)) (T 4) (vd : Int)) (hkd : kd ≤ 3) (hva : va < T 3) (hvb : vb < T 3) (hne : va ≠ vb) (hvd : vd ≤ 30) (hvw : 1 ≤ vw ∧ vw ≤ 60) : LI (gui (gui hz (t + 7) (T 4) ((tNeF kd vw : Nat) : Int)) t 4 ((T 4 : Int) + 1)) B e p8 t T' := by
  obtain ⟨⟨l0, l1, l2, l3, l4, l5, l6⟩, l7, l8, l9, l10, l11⟩ := id hTL
  have htt : t = 6 ∨ t = 29 := ht
  have et := ez t (by omega) (by omega) (by omega) (by omega) (by omega)
  have e7 := ez (t + 7) (by omega) (by omega) (by omega) (by omega) (by omega)
  have x4 : T' 4 = T 4 + 1 := by rw [hT', uT_s]
  have xk : T' (19 + 5 * T 4) = kd := by rw [hT', uT_n (by omega), uT_n (by omega), uT_n (by omega), uT_n (by omega), uT_n (by omega), uT_s]
  have xa : T' (20 + 5 * T 4) = va := by rw [hT', uT_n (by omega), uT_n (by omega), uT_n (by omega), uT_n (by omega), uT_s]
  have xb : T' (21 + 5 * T 4) = vb := by rw [hT', uT_n (by omega), uT_n (by omega), uT_n (by omega), uT_s]
  have xd : T' (22 + 5 * T 4) = vd := by rw [hT', uT_n (by omega), uT_n (by omega), uT_s]
  have xw : T' (23 + 5 * T 4) = vw := by rw [hT', uT_n (by omega), uT_s]
  have xl : ∀ x, x < 75 → x ≠ 4 → (x < 19 + 5 * T 4 ∨ 23 + 5 * T 4 < x) → T' x = T x := fun x j1 j2 j3 => by rw [hT', uT_n j2, uT_n (by omega), uT_n (by omega), uT_n (by omega), uT_n (by omega), uT_n (by omega), hlo x j1]
  have xh : ∀ x, 75 ≤ x → T' x = T1 x := fun x hx => by rw [hT', uT_n (by omega), uT_n (by omega), uT_n (by omega), uT_n (by omega), uT_n (by omega), uT_n (by omega)]
  have x3 := xl 3 (by decide) (by decide) (by omega)
  have x5 := xl 5 (by decide) (by decide) (by omega)
  have x6 := xl 6 (by decide) (by decide) (by omega)
  refine ⟨(hC.p6 (by omega)).p6 (by omega), ⟨m1, sl1, ((hN.p6 (by omega)).p6 (by omega)).cg xh⟩, hU1.cg xh, ⟨fun k hk5 => ?_, fun k hk => ?_, fun b hb7 => ?_⟩, ?_, hDz, ?_, ?_⟩
  · rw [gui_s]
    by_cases q : k = 4
    · rw [q, up1_s, x4]
      omega
    · rw [up1_n q, gui_n (by omega), et, xl k (by omega) q (by omega)]
      exact hTA.1 k hk5
  · rw [x3] at hk
    rw [gui_n (by omega), gui_n (by omega), gui_n (by omega), gui_n (by omega), ez (t + 1) (by omega) (by omega) (by omega) (by omega) (by omega), ez (t + 2) (by omega) (by omega) (by omega) (by omega) (by omega), xl _ (by omega) (by omega) (by omega), xl _ (by omega) (by omega) (by omega)]
    exact hTA.2.1 k hk
  · unfold tNe
    rw [gui_n (show t + 3 ≠ t by omega), gui_n (show t + 3 ≠ t + 7 by omega), gui_n (show t + 4 ≠ t by omega), gui_n (show t + 4 ≠ t + 7 by omega), gui_n (show t + 5 ≠ t by omega), gui_n (show t + 5 ≠ t + 7 by omega), gui_n (show t + 6 ≠ t by omega), gui_n (show t + 6 ≠ t + 7 by omega), gui_n (show t + 7 ≠ t by omega), gui_s, ez3, ez4, ez5, ez6, e7]
    by_cases q : b = T 4
    · rw [q, up1_s, up1_s, up1_s, up1_s, up1_s, xk, xa, xb, xd, xw]
      exact ⟨rfl, rfl, rfl, rfl, rfl⟩
    · rw [x4] at hb7
      rw [up1_n q, up1_n q, up1_n q, up1_n q, up1_n q, xl _ (by omega) (by omega) (by omega), xl _ (by omega) (by omega) (by omega), xl _ (by omega) (by omega) (by omega), xl _ (by omega) (by omega) (by omega), xl _ (by omega) (by omega) (by omega)]
      exact hTA.2.2 b (by omega)
  · refine hSA.up x5 x6 (fun x hx hx2 => xl x hx2 (by omega) (by omega)) l5 l6 (fun o o1 o2 => ?_)
    rw [gui_n (by omega), gui_n (by omega)]
    exact ez o (by omega) (by omega) (by omega) (by omega) (by omega)
  · rw [gui_n (by omega), gui_n (by omega), hz4, xl 0 (by decide) (by decide) (by omega)]
    exact hL
  · refine ⟨⟨by rw [xl 0 (by decide) (by decide) (by omega)]; exact l0, by rw [xl 1 (by decide) (by decide) (by omega)]; exact l1, by rw [xl 2 (by decide) (by decide) (by omega)]; exact l2, by rw [x3]; exact l3, by rw [x4]; omega, by rw [x5]; exact l5, by rw [x6]; exact l6⟩, ?_, ?_, ?_, ?_, ?_⟩
    · intro n hn
      rw [x3] at hn
      rw [xl _ (by omega) (by omega) (by omega), xl _ (by omega) (by omega) (by omega)]
      exact l7 n hn
    · intro n hn
      rw [x4] at hn
      rw [x3]
      by_cases q : n = T 4
      · rw [q, xk, xa, xb, xd, xw]
        exact ⟨hkd, hva, hvb, hne, hvd, hvw.1, hvw.2⟩
      · rw [xl _ (by omega) (by omega) (by omega), xl _ (by omega) (by omega) (by omega), xl _ (by omega) (by omega) (by omega), xl _ (by omega) (by omega) (by omega), xl _ (by omega) (by omega) (by omega)]
        exact l8 n (by omega)
    · intro n hn
      rw [x5] at hn
      rw [x3, xl _ (by omega) (by omega) (by omega), xl _ (by omega) (by omega) (by omega)]
      exact l9 n hn
    · intro n hn
      rw [x6] at hn
      rw [x3, xl _ (by omega) (by omega) (by omega), xl _ (by omega) (by omega) (by omega), xl _ (by omega) (by omega) (by omega)]
      exact l10 n hn
    · intro n hn
      have z1 := zs n hn
      have z2 := l11 n hn
      rw [x3, x4, x5, xh _ (by omega)]
      omega
