/-! the law's loop: what stands between two calls -/
def okT (z : Int) : Prop := z = 0 ∨ z = 1 ∨ z = 2 ∨ z = 3 ∨ z = 5 ∨ z = 6
def LInv (h : gH) (t n : Nat) (T B : Nat → Nat) (s : gSt) (q : Nat) : Prop := XST h t T s ∧ MST h T s ∧ (T 3 ≠ 0 → StrI h t T) ∧ SZ h t T s.1 ∧ RX h n B ∧ RM h n B ∧ h.2.2 1 = 35 - t ∧ (h.1 0 9 = (q : Int) ∧ h.1 142 11 = (q : Int) ∧ q ≤ 6) ∧ (h.1 0 7 = h.1 142 9) ∧ (q = 4 → h.1 0 8 = h.1 142 10)
def LI2 (h : gH) : Prop := ∃ t n T B s q, LInv h t n T B s q
theorem okT_q {z : Int} (h : okT z) : ∃ q : Nat, z = (q : Int) ∧ q ≤ 6 ∧ q ≠ 4 := by
  unfold okT at h
  exact ⟨z.toNat, by omega, by omega, by omega⟩
theorem mQ.xs {h h' : gH} {T S : Nat → Nat} (a : mQ h T S) (e : ∀ o, 142 ≤ o → h'.1 o = h.1 o) : mQ h' T S := by
  obtain ⟨a1, a2, a3⟩ := a
  exact ⟨⟨fun k hk => by rw [e 145 (by decide)]; exact a1.1 k hk, fun k hk => by rw [e 147 (by decide)]; exact a1.2 k hk⟩, by rw [e 142 (by decide)]; exact a2, a3⟩
theorem MH.xs {h h' : gH} {n m : Nat} {U K : Nat → Nat → Nat} (a : MH h n U m K) (e : ∀ o, 142 ≤ o → h'.1 o = h.1 o) : MH h' n U m K := by
  obtain ⟨a1, a2, a3, a4, a5, a6⟩ := a
  exact ⟨by rw [e 142 (by decide)]; exact a1, by rw [e 142 (by decide)]; exact a2, a3, a4, fun k hk j hj => by rw [e 148 (by decide)]; exact a5 k hk j hj, fun i hi j hj => by rw [e 149 (by decide)]; exact a6 i hi j hj⟩
theorem MST.xs {h h' : gH} {T : Nat → Nat} {s : gSt} (a : MST h T s) (e : ∀ o, 142 ≤ o → h'.1 o = h.1 o) : MST h' T s := ⟨a.1.xs e, a.2.1.xs e, a.2.2⟩
theorem XS.m {h h' : gH} (a : XS h h') : ∀ o, 142 ≤ o → h'.1 o = h.1 o := fun o ho => a.2.1 o (by omega) (by omega) (by omega) (by omega) (by omega) (by omega) (by omega) (by omega)
theorem XA.m {h h' : gH} (a : XA h h') : ∀ o, 142 ≤ o → h'.1 o = h.1 o := fun o ho => a.2.1 o (by omega) (by omega) (by omega) (by omega) (by omega) (by omega) (by omega) (by omega) (by omega)
/-- the class's part of the invariant lies below 142 -/
theorem XST.lo {h h' : gH} {t : Nat} {T : Nat → Nat} {s : gSt} (a : XST h t T s) (e2 : h'.2 = h.2) (e : ∀ o, o < 142 → h'.1 o = h.1 o) : XST h' t T s := by
  have ht : t = 6 ∨ t = 29 := a.1.1
  exact ⟨a.1.to e2 (fun o o1 o2 => e o (by omega)) (fun o o1 o2 => e o (by omega)), a.2.1.to (fun o o1 o2 => e o (by omega)), a.2.2⟩
theorem StrI.lo {h h' : gH} {t : Nat} {T : Nat → Nat} (ht : isT t) (hT : TV T) (a : StrI h t T) (e : ∀ o, t + 10 ≤ o → o ≤ t + 21 → h'.1 o = h.1 o) : StrI h' t T := a.to hT e
theorem XST.tv {h : gH} {t : Nat} {T : Nat → Nat} {s : gSt} (a : XST h t T s) (h3 : T 3 ≠ 0) : TV T := (a.1.ci (Or.inl h3)).2.2.1
theorem SZ.to {h h' : gH} {t : Nat} {T S : Nat → Nat} (a : SZ h t T S) (e0 : h'.1 t = h.1 t) (e1 : h'.1 (t + 10) = h.1 (t + 10)) (e2 : h'.1 52 = h.1 52) : SZ h' t T S := by
  obtain ⟨a1, a2, a3, a4⟩ := a
  exact ⟨by rw [e0]; exact a1, by rw [e1]; exact a2, by rw [e2]; exact a3, a4⟩
theorem RX.to {h h' : gH} {n : Nat} {B : Nat → Nat} (a : RX h n B) (e2 : h'.1 2 = h.1 2) (e3 : h'.1 3 = h.1 3) : RX h' n B := ⟨a.1, by rw [e2]; exact a.2.1, fun j hj => by rw [e3]; exact a.2.2 j hj⟩
theorem RM.to {h h' : gH} {n : Nat} {B : Nat → Nat} (a : RM h n B) (e2 : h'.1 142 2 = h.1 142 2) (e3 : h'.1 143 = h.1 143) : RM h' n B := ⟨a.1, by rw [e2]; exact a.2.1, fun j hj => by rw [e3]; exact a.2.2 j hj⟩
theorem LInv.q {h h1 h2 : gH} {t n : Nat} {T B : Nat → Nat} {s : gSt} {q : Nat} {tr : Int} (a : LInv h t n T B s q) (b : XS h h1) (b9 : h1.1 0 9 = tr) (c : MS h1 h2) (c11 : h2.1 142 11 = tr) (ok : okT tr) : LI2 h2 := by
  obtain ⟨q', rfl, q1, q2⟩ := okT_q ok
  obtain ⟨a1, a2, a3, a4, a5, a6, a7, a8, a9, a10⟩ := a
  have ht : t = 6 ∨ t = 29 := a1.1.1
  have c0 : ∀ o, o < 142 → h2.1 o = h1.1 o := fun o ho => c.2.1 o (by omega) (by omega) (by omega) (by omega) (by omega) (by omega) (by omega)
  have b0 : ∀ o, o ≠ 0 → o < 136 → o ≠ 28 → o ≠ 51 → h1.1 o = h.1 o := fun o o0 o1 o2 o3 => b.2.1 o o0 (by omega) (by omega) (by omega) (by omega) (by omega) o2 o3
  have d0 : ∀ o, o ≠ 0 → o < 136 → o ≠ 28 → o ≠ 51 → h2.1 o = h.1 o := fun o o0 o1 o2 o3 => (c0 o (by omega)).trans (b0 o o0 o1 o2 o3)
  have m1 := b.m
  have c142 : ∀ k, k ≠ 0 → k ≠ 11 → k < 24 → h2.1 142 k = h.1 142 k := fun k k0 k1 k2 => by rw [c.2.2.1 k k0 k1 k2, m1 142 (by decide)]
  refine ⟨t, n, T, B, s, q', (a1.xs b).lo c.1 c0, ?_, fun h3 => (a3 h3).to (a1.tv h3) (fun o o1 o2 => d0 o (by omega) (by omega) (by omega) (by omega)), a4.to (d0 t (by omega) (by omega) (by omega) (by omega)) (d0 (t + 10) (by omega) (by omega) (by omega) (by omega)) (d0 52 (by decide) (by decide) (by decide) (by decide)), a5.to (d0 2 (by decide) (by decide) (by decide) (by decide)) (d0 3 (by decide) (by decide) (by decide) (by decide)), a6.to (c142 2 (by decide) (by decide) (by decide)) ?_, ?_, ⟨by rw [c0 0 (by decide)]; exact b9, c11, q1⟩, ?_, fun z => absurd z q2⟩
  · exact (a2.xs m1).ms c
  · rw [c.2.1 143 (by decide) (by decide) (by decide) (by decide) (by decide) (by decide) (by decide)]; exact m1 143 (by decide)
  · rw [c.1, b.1]; exact a7
  · rw [c0 0 (by decide), b.2.2 7 (by decide), c142 9 (by decide) (by decide) (by decide)]; exact a9
theorem LInv.a {h h1 h2 : gH} {t n : Nat} {T B : Nat → Nat} {s s' : gSt} {q : Nat} {tr : Int} (a : LInv h t n T B s q) (h3 : T 3 ≠ 0) (b : XA h h1) (b9 : h1.1 0 9 = tr) (bX : XST h1 t T s') (c : YM h1 h2) (c11 : h2.1 142 11 = tr) (cM : MST h2 T s') (ok : okT tr) : LI2 h2 := by
  obtain ⟨q', rfl, q1, q2⟩ := okT_q ok
  obtain ⟨a1, a2, a3, a4, a5, a6, a7, a8, a9, a10⟩ := a
  have ht : t = 6 ∨ t = 29 := a1.1.1
  have c0 : ∀ o, o < 142 → h2.1 o = h1.1 o := fun o ho => c.2.1 o (by omega) (by omega) (by omega) (by omega) (by omega) (by omega) (by omega) (by omega) (by omega) (by omega)
  have d0 : ∀ o, o ≠ 0 → o < 52 → o ≠ 28 → o ≠ 51 → h2.1 o = h.1 o := fun o o0 o1 o2 o3 => (c0 o (by omega)).trans (b.2.1 o o0 (by omega) (by omega) (by omega) (by omega) (by omega) (by omega) o2 o3)
  have m1 := b.m
  have c142 : ∀ k, k ≠ 0 → k ≠ 11 → k ≠ 20 → k ≠ 21 → k < 24 → h2.1 142 k = h.1 142 k := fun k k0 k1 k20 k21 k2 => by rw [c.2.2.1 k k0 k1 k20 k21 k2, m1 142 (by decide)]
  have X2 := bX.lo c.1 c0
  have hP := (X2.1.ci (Or.inl h3)).2.2.2.2.2.2
  refine ⟨t, n, T, B, s', q', X2, cM, fun h3 => (a3 h3).to (a1.tv h3) (fun o o1 o2 => d0 o (by omega) (by omega) (by omega) (by omega)), ⟨?_, ?_, ⟨hP.1, hP.2.1⟩, fun z => absurd z h3⟩, a5.to (d0 2 (by decide) (by decide) (by decide) (by decide)) (d0 3 (by decide) (by decide) (by decide) (by decide)), a6.to (c142 2 (by decide) (by decide) (by decide) (by decide) (by decide)) ?_, ?_, ⟨by rw [c0 0 (by decide)]; exact b9, c11, q1⟩, ?_, fun z => absurd z q2⟩
  · rw [d0 t (by omega) (by omega) (by omega) (by omega)]; exact a4.1
  · rw [d0 (t + 10) (by omega) (by omega) (by omega) (by omega)]; exact a4.2.1
  · rw [c.2.1 143 (by decide) (by decide) (by decide) (by decide) (by decide) (by decide) (by decide) (by decide) (by decide) (by decide)]; exact m1 143 (by decide)
  · rw [c.1, b.1]; exact a7
  · rw [c0 0 (by decide), b.2.2 7 (by decide), c142 9 (by decide) (by decide) (by decide) (by decide) (by decide)]; exact a9
/-- an act without a town -/
theorem LInv.z {h h1 h2 : gH} {t n : Nat} {T B : Nat → Nat} {s : gSt} {q : Nat} {tr : Int} (a : LInv h t n T B s q) (b : XS h h1) (b9 : h1.1 0 9 = tr) (c : YM h1 h2) (c11 : h2.1 142 11 = tr) (cM : MST h2 T s) (ok : okT tr) : LI2 h2 := by
  obtain ⟨q', rfl, q1, q2⟩ := okT_q ok
  obtain ⟨a1, a2, a3, a4, a5, a6, a7, a8, a9, a10⟩ := a
  have ht : t = 6 ∨ t = 29 := a1.1.1
  have c0 : ∀ o, o < 142 → h2.1 o = h1.1 o := fun o ho => c.2.1 o (by omega) (by omega) (by omega) (by omega) (by omega) (by omega) (by omega) (by omega) (by omega) (by omega)
  have b0 : ∀ o, o ≠ 0 → o < 136 → o ≠ 28 → o ≠ 51 → h1.1 o = h.1 o := fun o o0 o1 o2 o3 => b.2.1 o o0 (by omega) (by omega) (by omega) (by omega) (by omega) o2 o3
  have d0 : ∀ o, o ≠ 0 → o < 136 → o ≠ 28 → o ≠ 51 → h2.1 o = h.1 o := fun o o0 o1 o2 o3 => (c0 o (by omega)).trans (b0 o o0 o1 o2 o3)
  have m1 := b.m
  have c142 : ∀ k, k ≠ 0 → k ≠ 11 → k ≠ 20 → k ≠ 21 → k < 24 → h2.1 142 k = h.1 142 k := fun k k0 k1 k20 k21 k2 => by rw [c.2.2.1 k k0 k1 k20 k21 k2, m1 142 (by decide)]
  refine ⟨t, n, T, B, s, q', (a1.xs b).lo c.1 c0, cM, fun h3 => (a3 h3).to (a1.tv h3) (fun o o1 o2 => d0 o (by omega) (by omega) (by omega) (by omega)), a4.to (d0 t (by omega) (by omega) (by omega) (by omega)) (d0 (t + 10) (by omega) (by omega) (by omega) (by omega)) (d0 52 (by decide) (by decide) (by decide) (by decide)), a5.to (d0 2 (by decide) (by decide) (by decide) (by decide)) (d0 3 (by decide) (by decide) (by decide) (by decide)), a6.to (c142 2 (by decide) (by decide) (by decide) (by decide) (by decide)) ?_, ?_, ⟨by rw [c0 0 (by decide)]; exact b9, c11, q1⟩, ?_, fun z => absurd z q2⟩
  · rw [c.2.1 143 (by decide) (by decide) (by decide) (by decide) (by decide) (by decide) (by decide) (by decide) (by decide) (by decide)]; exact m1 143 (by decide)
  · rw [c.1, b.1]; exact a7
  · rw [c0 0 (by decide), b.2.2 7 (by decide), c142 9 (by decide) (by decide) (by decide) (by decide) (by decide)]; exact a9
/-- what only sets 'thrown' -/
theorem LInv.t {h : gH} {t n : Nat} {T B : Nat → Nat} {s : gSt} {q : Nat} {x : Int} (a : LInv h t n T B s q) : LI2 (gui h 142 0 x) := by
  obtain ⟨a1, a2, a3, a4, a5, a6, a7, ⟨a81, a82, a83⟩, a9, a10⟩ := a
  have ht : t = 6 ∨ t = 29 := a1.1.1
  have c0 : ∀ o, o ≠ 142 → (gui h 142 0 x).1 o = h.1 o := fun o ho => gui_n ho
  have c1 : ∀ k, k ≠ 0 → (gui h 142 0 x).1 142 k = h.1 142 k := fun k hk => by rw [gui_s, up1_n hk]
  refine ⟨t, n, T, B, s, q, a1.lo rfl (fun o ho => c0 o (by omega)), ?_, fun h3 => (a3 h3).to (a1.tv h3) (fun o o1 o2 => c0 o (by omega)), a4.to (c0 t (by omega)) (c0 _ (by omega)) (c0 52 (by decide)), a5.to (c0 2 (by decide)) (c0 3 (by decide)), a6.to (c1 2 (by decide)) (c0 143 (by decide)), a7, ⟨by rw [c0 0 (by decide)]; exact a81, by rw [c1 11 (by decide)]; exact a82, a83⟩, by rw [c0 0 (by decide), c1 9 (by decide)]; exact a9, fun z => by rw [c0 0 (by decide), c1 10 (by decide)]; exact a10 z⟩
  obtain ⟨⟨⟨y1, y2⟩, y3, y4⟩, ⟨z1, z2, z3, z4, z5, z6⟩, z7⟩ := a2
  exact ⟨⟨⟨fun k hk => by rw [c0 145 (by decide)]; exact y1 k hk, fun k hk => by rw [c0 147 (by decide)]; exact y2 k hk⟩, by rw [c1 14 (by decide)]; exact y3, y4⟩, ⟨by rw [c1 20 (by decide)]; exact z1, by rw [c1 21 (by decide)]; exact z2, z3, z4, fun k hk j hj => by rw [c0 148 (by decide)]; exact z5 k hk j hj, fun i hi j hj => by rw [c0 149 (by decide)]; exact z6 i hi j hj⟩, z7⟩
theorem LInv.zero {h : gH} {t n : Nat} {T B : Nat → Nat} {s : gSt} {q : Nat} (a : LInv h t n T B s q) (h3 : T 3 = 0) : T 4 = 0 ∧ T 5 = 0 ∧ s.2.1.1 = 0 ∧ s.2.2.1 = 0 := by
  obtain ⟨a1, -⟩ := a
  have hz := a1.2.2.2.2.2.2 h3
  rcases a1.1.2.2.2.2 with z | z
  · exact ⟨z.2.1, z.2.2, hz.1, hz.2⟩
  · have := z.2.2.1.2.2.2.1.1
    omega
theorem ok_0 {x : Int} : okT ((x, (0 : Int)) : Int × Int).2 := Or.inl rfl
theorem ok_1 {x : Int} : okT ((x, (1 : Int)) : Int × Int).2 := Or.inr (Or.inl rfl)
theorem ok_2 {x : Int} : okT ((x, (2 : Int)) : Int × Int).2 := Or.inr (Or.inr (Or.inl rfl))
theorem ok_3 {x : Int} : okT ((x, (3 : Int)) : Int × Int).2 := Or.inr (Or.inr (Or.inr (Or.inl rfl)))
theorem ok_5 {x : Int} : okT ((x, (5 : Int)) : Int × Int).2 := Or.inr (Or.inr (Or.inr (Or.inr (Or.inl rfl))))
theorem ok_6 {x : Int} : okT ((x, (6 : Int)) : Int × Int).2 := Or.inr (Or.inr (Or.inr (Or.inr (Or.inr rfl))))
theorem ok_aHouse (T S : Nat → Nat) (a b : Int) : okT (aHouse T S a b).2 := by
  unfold aHouse
  (repeat' split) <;> first | exact ok_0 | exact ok_1 | exact ok_2 | exact ok_3 | exact ok_5 | exact ok_6
theorem ok_aBird (T S : Nat → Nat) (a b : Int) : okT (aBird T S a b).2 := by
  unfold aBird
  (repeat' split) <;> first | exact ok_0 | exact ok_1 | exact ok_2 | exact ok_3 | exact ok_5 | exact ok_6
theorem ok_aApart (T : Nat → Nat) (a b : Int) : okT (aApart T a b).2 := by
  unfold aApart
  (repeat' split) <;> first | exact ok_0 | exact ok_1 | exact ok_2 | exact ok_3 | exact ok_5 | exact ok_6
theorem ok_aTown (T : Nat → Nat) (x : Int) : okT (aTown T x).2 := by
  unfold aTown
  (repeat' split) <;> first | exact ok_0 | exact ok_1 | exact ok_2 | exact ok_3 | exact ok_5 | exact ok_6
theorem ok_aHo (T : Nat → Nat) (a : Int) (f : Nat → Int) : okT (aHo T a f).2 := by
  unfold aHo
  (repeat' split) <;> first | exact ok_0 | exact ok_1 | exact ok_2 | exact ok_3 | exact ok_5 | exact ok_6
theorem ok_aBi (T : Nat → Nat) (a : Int) (f : Nat → Int) : okT (aBi T a f).2 := by
  unfold aBi
  (repeat' split) <;> first | exact ok_0 | exact ok_1 | exact ok_2 | exact ok_3 | exact ok_5 | exact ok_6
theorem ok_aHoN (T : Nat → Nat) (a n : Int) (f : Nat → Nat → Int) (m : Int) : okT (aHoN T a n f m).2 := by
  unfold aHoN
  (repeat' split) <;> first | exact ok_0 | exact ok_1 | exact ok_2 | exact ok_3 | exact ok_5 | exact ok_6
theorem ok_aBiN (T : Nat → Nat) (a n : Int) (f : Nat → Nat → Int) (m : Int) : okT (aBiN T a n f m).2 := by
  unfold aBiN
  (repeat' split) <;> first | exact ok_0 | exact ok_1 | exact ok_2 | exact ok_3 | exact ok_5 | exact ok_6
theorem ok_aToN (T : Nat → Nat) (n : Int) (f : Nat → Int) (m : Int) : okT (aToN T n f m).2 := by
  unfold aToN
  (repeat' split) <;> first | exact ok_0 | exact ok_1 | exact ok_2 | exact ok_3 | exact ok_5 | exact ok_6
theorem ok_aMeeting (T S : Nat → Nat) (a b : Int) : okT (aMeeting T S a b).2 := by
  unfold aMeeting
  (repeat' split) <;> first | exact ok_0 | exact ok_1 | exact ok_2 | exact ok_3 | exact ok_5 | exact ok_6
theorem ok_aFeud (T S : Nat → Nat) (a b : Int) : okT (aFeud T S a b).2 := by
  unfold aFeud
  (repeat' split) <;> first | exact ok_0 | exact ok_1 | exact ok_2 | exact ok_3 | exact ok_5 | exact ok_6
theorem ok_aSafe (T S : Nat → Nat) (a n : Int) (l : Bool) : okT (aSafe T S a n l).2 := by
  unfold aSafe
  (repeat' split) <;> first | exact ok_0 | exact ok_1 | exact ok_2 | exact ok_3 | exact ok_5 | exact ok_6
theorem ok_aRgAt (T S : Nat → Nat) (a b : Int) : okT (aRgAt T S a b).2 := by
  unfold aRgAt
  (repeat' split) <;> first | exact ok_0 | exact ok_1 | exact ok_2 | exact ok_3 | exact ok_5 | exact ok_6
theorem ok_aSt (T : Nat → Nat) (a : Int) (f : Nat → Int) : okT (aSt T a f).2 := by
  unfold aSt
  (repeat' split) <;> first | exact ok_0 | exact ok_1 | exact ok_2 | exact ok_3 | exact ok_5 | exact ok_6
theorem ok_aFitAt (T : Nat → Nat) (i s : Int) : okT (aFitAt T i s).2 := by
  unfold aFitAt
  (repeat' split) <;> first | exact ok_0 | exact ok_1 | exact ok_2 | exact ok_3 | exact ok_5 | exact ok_6
theorem ok_aSends (T : Nat → Nat) (w : Int) (a b o : Bool) : okT (aSends T w a b o).2 := ok_aToN _ _ _ _
theorem ok_aLeft (T S : Nat → Nat) (a b : Int) (l : Bool) : okT (aLeft T S a b l).2 := ok_aHoN _ _ _ _ _
theorem ok_aStays (T : Nat → Nat) (b : Int) (l : Bool) : okT (aStays T b l).2 := ok_aToN _ _ _ _
theorem ok_aRests (T : Nat → Nat) (w : Int) : okT (aRests T w).2 := ok_aToN _ _ _ _
theorem ok_aRest (T : Nat → Nat) (w : Int) : okT (aRest T w).2 := ok_aToN _ _ _ _
theorem ok_rDay (T : Nat → Nat) (s : gSt) : okT (rDay T s).1.2 := by
  unfold rDay
  (repeat' split) <;> first | exact ok_0 | exact ok_1 | exact ok_2 | exact ok_3 | exact ok_5 | exact ok_6
theorem ok_rPay (T : Nat → Nat) (s : gSt) (a c : Int) : okT (rPay T s a c).1.2 := by
  unfold rPay
  (repeat' split) <;> first | exact ok_0 | exact ok_1 | exact ok_2 | exact ok_3 | exact ok_5 | exact ok_6
theorem ok_rMeet (T : Nat → Nat) (s : gSt) (a b : Int) : okT (rMeet T s a b).1.2 := by
  unfold rMeet
  (repeat' split) <;> first | exact ok_0 | exact ok_1 | exact ok_2 | exact ok_3 | exact ok_5 | exact ok_6
theorem ok_rUndo (s : gSt) : okT (rUndo s).1.2 := by
  unfold rUndo
  (repeat' split) <;> first | exact ok_0 | exact ok_1 | exact ok_2 | exact ok_3 | exact ok_5 | exact ok_6
theorem ok_rImage (T : Nat → Nat) (s : gSt) : okT (rImage T s).1.2 := by
  unfold rImage
  (repeat' split) <;> first | exact ok_0 | exact ok_1 | exact ok_2 | exact ok_3 | exact ok_5 | exact ok_6
theorem ok_rBack (s : gSt) (a : Int) : okT (rBack s a).1.2 := by
  unfold rBack
  (repeat' split) <;> first | exact ok_0 | exact ok_1 | exact ok_2 | exact ok_3 | exact ok_5 | exact ok_6
