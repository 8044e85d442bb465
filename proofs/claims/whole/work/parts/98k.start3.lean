/-! the law's start: the cells as they are laid are the pure heap's first state -/
def ES (aC : Nat → ClassId) (z : Nat) : List va_E := [.inr (9, (nF_X10 aC (z + 1)).1)] ++ (nF_X10 aC (z + 1)).2 ++ [.inr (10, (nF_X11 aC (z + 143)).1)] ++ (nF_X11 aC (z + 143)).2 ++ [.inl (aC 2, ((1, .inr (.inl (fun _ => 0))) : vp_A))]
def adS (z b : Nat) (tk : Nat → Nat) (i : Nat) : Nat := if i < 29 then z + i else if i < 52 then z + (i + 90) else if i < 142 then z + (i - 23) else if i < 157 then z + i else if i = 2000 then b else tk (i - 1000)
def gh0 : gH := (fun o k => if o = 142 then (if k = 10 then -1 else 0) else 0, fun _ _ => 0, fun a => if a = 0 then 29 else 6)
def vsel : List va_E → Nat → va_E
  | [], _ => .inr (0, [])
  | a :: _, 0 => a
  | _ :: l, n + 1 => vsel l n
theorem vsel_at : ∀ (l : List va_E) (K : Nat), K < l.length → l[K]? = some (vsel l K)
  | [], K, h => absurd h (Nat.not_lt_zero K)
  | a :: l, 0, h => rfl
  | a :: l, K + 1, h => by
    rw [List.getElem?_cons_succ]
    exact vsel_at l K (Nat.lt_of_succ_lt_succ h)
def ESF (aC : Nat → ClassId) (z : Nat) : List va_E := [.inr (9, [.ref ((z + 1) + 0), .ref ((z + 1) + 28), .ref ((z + 1) + 32), .ref ((z + 1) + 111), .ref ((z + 1) + 114), .ref ((z + 1) + 117), .ref ((z + 1) + 118), .int 0, .int 0, .int 0]),
  .inr (3, [.ref (((z + 1) + 1) + 0), .ref (((z + 1) + 1) + 2), .ref (((z + 1) + 1) + 3), .int 0, .int 0, .int 0, .int 0, .int 0, .ref (((z + 1) + 1) + 4)]),
  .inr (7, [.ref ((((z + 1) + 1) + 1) + 0), .int 0, .int 0, .int 0, .int 0, .int 0, .int 0, .long 0]),
  .inl (aC 1, 900, .inl (fun _ => 0)),
  .inl (aC 2, 16, .inr (.inl (fun _ => 0))),
  .inl (aC 0, 16, .inl (fun _ => 0)),
  .inr (8, [.int 0, .int 0, .int 0, .int 0, .int 0, .ref ((((z + 1) + 1) + 5) + 0), .ref ((((z + 1) + 1) + 5) + 1), .ref ((((z + 1) + 1) + 5) + 2), .ref ((((z + 1) + 1) + 5) + 3), .ref ((((z + 1) + 1) + 5) + 4), .ref ((((z + 1) + 1) + 5) + 5), .ref ((((z + 1) + 1) + 5) + 6), .ref ((((z + 1) + 1) + 5) + 7), .ref ((((z + 1) + 1) + 5) + 8), .ref ((((z + 1) + 1) + 5) + 9)]),
  .inl (aC 0, 6, .inl (fun _ => 0)),
  .inl (aC 0, 6, .inl (fun _ => 0)),
  .inl (aC 0, 7, .inl (fun _ => 0)),
  .inl (aC 0, 7, .inl (fun _ => 0)),
  .inl (aC 0, 7, .inl (fun _ => 0)),
  .inl (aC 0, 7, .inl (fun _ => 0)),
  .inl (aC 0, 7, .inl (fun _ => 0)),
  .inl (aC 0, 7, .inl (fun _ => 0)),
  .inl (aC 0, 7, .inl (fun _ => 0)),
  .inr (6, [.int 0, .ref (((((z + 1) + 1) + 5) + 10) + 0), .ref (((((z + 1) + 1) + 5) + 10) + 1), .ref (((((z + 1) + 1) + 5) + 10) + 2), .int 0, .ref (((((z + 1) + 1) + 5) + 10) + 6), .ref (((((z + 1) + 1) + 5) + 10) + 7), .ref (((((z + 1) + 1) + 5) + 10) + 8), .ref (((((z + 1) + 1) + 5) + 10) + 9), .int 0, .ref (((((z + 1) + 1) + 5) + 10) + 10), .ref (((((z + 1) + 1) + 5) + 10) + 11)]),
  .inl (aC 0, 3, .inl (fun _ => 0)),
  .inl (aC 0, 3, .inl (fun _ => 0)),
  .inl (aC 4, 3, .inr (.inr (.inr (.inr (fun i => if i < 3 then some (((((z + 1) + 1) + 5) + 10) + 2 + 1 + i) else none))))),
  .inl (aC 0, 6, .inl (fun _ => 0)),
  .inl (aC 0, 6, .inl (fun _ => 0)),
  .inl (aC 0, 6, .inl (fun _ => 0)),
  .inl (aC 0, 5, .inl (fun _ => 0)),
  .inl (aC 0, 5, .inl (fun _ => 0)),
  .inl (aC 0, 5, .inl (fun _ => 0)),
  .inl (aC 0, 5, .inl (fun _ => 0)),
  .inl (aC 0, 125, .inl (fun _ => 0)),
  .inl (aC 0, 4, .inl (fun _ => 0)),
  .inr (2, [.int 0, .int 0, .int 0, .ref (((z + 1) + 29) + 0), .ref (((z + 1) + 29) + 1), .ref (((z + 1) + 29) + 2)]),
  .inl (aC 0, 6, .inl (fun _ => 0)),
  .inl (aC 0, 6, .inl (fun _ => 0)),
  .inl (aC 0, 7, .inl (fun _ => 0)),
  .inr (1, [.ref ((z + 1) + 33), .ref (((z + 1) + 33) + 1), .int 0, .int 0, .int 0]),
  .inl (aC 3, 16, .inr (.inr (.inr (.inr (fQ (((z + 1) + 33) + 2) 16))))),
  .inl (aC 3, 3, .inr (.inr (.inr (.inr (fQ (((z + 1) + 33) + 66) 3))))),
  .inr (2, [.int 0, .int 0, .int 0, .ref (((z + 1) + 33) + 3), .ref (((z + 1) + 33) + 4), .ref (((z + 1) + 33) + 5)]),
  .inl (aC 0, 6, .inl (fun _ => 0)),
  .inl (aC 0, 6, .inl (fun _ => 0)),
  .inl (aC 0, 7, .inl (fun _ => 0)),
  .inr (2, [.int 0, .int 0, .int 0, .ref (((z + 1) + 33) + 7), .ref (((z + 1) + 33) + 8), .ref (((z + 1) + 33) + 9)]),
  .inl (aC 0, 6, .inl (fun _ => 0)),
  .inl (aC 0, 6, .inl (fun _ => 0)),
  .inl (aC 0, 7, .inl (fun _ => 0)),
  .inr (2, [.int 0, .int 0, .int 0, .ref (((z + 1) + 33) + 11), .ref (((z + 1) + 33) + 12), .ref (((z + 1) + 33) + 13)]),
  .inl (aC 0, 6, .inl (fun _ => 0)),
  .inl (aC 0, 6, .inl (fun _ => 0)),
  .inl (aC 0, 7, .inl (fun _ => 0)),
  .inr (2, [.int 0, .int 0, .int 0, .ref (((z + 1) + 33) + 15), .ref (((z + 1) + 33) + 16), .ref (((z + 1) + 33) + 17)]),
  .inl (aC 0, 6, .inl (fun _ => 0)),
  .inl (aC 0, 6, .inl (fun _ => 0)),
  .inl (aC 0, 7, .inl (fun _ => 0)),
  .inr (2, [.int 0, .int 0, .int 0, .ref (((z + 1) + 33) + 19), .ref (((z + 1) + 33) + 20), .ref (((z + 1) + 33) + 21)]),
  .inl (aC 0, 6, .inl (fun _ => 0)),
  .inl (aC 0, 6, .inl (fun _ => 0)),
  .inl (aC 0, 7, .inl (fun _ => 0)),
  .inr (2, [.int 0, .int 0, .int 0, .ref (((z + 1) + 33) + 23), .ref (((z + 1) + 33) + 24), .ref (((z + 1) + 33) + 25)]),
  .inl (aC 0, 6, .inl (fun _ => 0)),
  .inl (aC 0, 6, .inl (fun _ => 0)),
  .inl (aC 0, 7, .inl (fun _ => 0)),
  .inr (2, [.int 0, .int 0, .int 0, .ref (((z + 1) + 33) + 27), .ref (((z + 1) + 33) + 28), .ref (((z + 1) + 33) + 29)]),
  .inl (aC 0, 6, .inl (fun _ => 0)),
  .inl (aC 0, 6, .inl (fun _ => 0)),
  .inl (aC 0, 7, .inl (fun _ => 0)),
  .inr (2, [.int 0, .int 0, .int 0, .ref (((z + 1) + 33) + 31), .ref (((z + 1) + 33) + 32), .ref (((z + 1) + 33) + 33)]),
  .inl (aC 0, 6, .inl (fun _ => 0)),
  .inl (aC 0, 6, .inl (fun _ => 0)),
  .inl (aC 0, 7, .inl (fun _ => 0)),
  .inr (2, [.int 0, .int 0, .int 0, .ref (((z + 1) + 33) + 35), .ref (((z + 1) + 33) + 36), .ref (((z + 1) + 33) + 37)]),
  .inl (aC 0, 6, .inl (fun _ => 0)),
  .inl (aC 0, 6, .inl (fun _ => 0)),
  .inl (aC 0, 7, .inl (fun _ => 0)),
  .inr (2, [.int 0, .int 0, .int 0, .ref (((z + 1) + 33) + 39), .ref (((z + 1) + 33) + 40), .ref (((z + 1) + 33) + 41)]),
  .inl (aC 0, 6, .inl (fun _ => 0)),
  .inl (aC 0, 6, .inl (fun _ => 0)),
  .inl (aC 0, 7, .inl (fun _ => 0)),
  .inr (2, [.int 0, .int 0, .int 0, .ref (((z + 1) + 33) + 43), .ref (((z + 1) + 33) + 44), .ref (((z + 1) + 33) + 45)]),
  .inl (aC 0, 6, .inl (fun _ => 0)),
  .inl (aC 0, 6, .inl (fun _ => 0)),
  .inl (aC 0, 7, .inl (fun _ => 0)),
  .inr (2, [.int 0, .int 0, .int 0, .ref (((z + 1) + 33) + 47), .ref (((z + 1) + 33) + 48), .ref (((z + 1) + 33) + 49)]),
  .inl (aC 0, 6, .inl (fun _ => 0)),
  .inl (aC 0, 6, .inl (fun _ => 0)),
  .inl (aC 0, 7, .inl (fun _ => 0)),
  .inr (2, [.int 0, .int 0, .int 0, .ref (((z + 1) + 33) + 51), .ref (((z + 1) + 33) + 52), .ref (((z + 1) + 33) + 53)]),
  .inl (aC 0, 6, .inl (fun _ => 0)),
  .inl (aC 0, 6, .inl (fun _ => 0)),
  .inl (aC 0, 7, .inl (fun _ => 0)),
  .inr (2, [.int 0, .int 0, .int 0, .ref (((z + 1) + 33) + 55), .ref (((z + 1) + 33) + 56), .ref (((z + 1) + 33) + 57)]),
  .inl (aC 0, 6, .inl (fun _ => 0)),
  .inl (aC 0, 6, .inl (fun _ => 0)),
  .inl (aC 0, 7, .inl (fun _ => 0)),
  .inr (2, [.int 0, .int 0, .int 0, .ref (((z + 1) + 33) + 59), .ref (((z + 1) + 33) + 60), .ref (((z + 1) + 33) + 61)]),
  .inl (aC 0, 6, .inl (fun _ => 0)),
  .inl (aC 0, 6, .inl (fun _ => 0)),
  .inl (aC 0, 7, .inl (fun _ => 0)),
  .inr (2, [.int 0, .int 0, .int 0, .ref (((z + 1) + 33) + 63), .ref (((z + 1) + 33) + 64), .ref (((z + 1) + 33) + 65)]),
  .inl (aC 0, 6, .inl (fun _ => 0)),
  .inl (aC 0, 6, .inl (fun _ => 0)),
  .inl (aC 0, 7, .inl (fun _ => 0)),
  .inr (2, [.int 0, .int 0, .int 0, .ref (((z + 1) + 33) + 67), .ref (((z + 1) + 33) + 68), .ref (((z + 1) + 33) + 69)]),
  .inl (aC 0, 6, .inl (fun _ => 0)),
  .inl (aC 0, 6, .inl (fun _ => 0)),
  .inl (aC 0, 7, .inl (fun _ => 0)),
  .inr (2, [.int 0, .int 0, .int 0, .ref (((z + 1) + 33) + 71), .ref (((z + 1) + 33) + 72), .ref (((z + 1) + 33) + 73)]),
  .inl (aC 0, 6, .inl (fun _ => 0)),
  .inl (aC 0, 6, .inl (fun _ => 0)),
  .inl (aC 0, 7, .inl (fun _ => 0)),
  .inr (2, [.int 0, .int 0, .int 0, .ref (((z + 1) + 33) + 75), .ref (((z + 1) + 33) + 76), .ref (((z + 1) + 33) + 77)]),
  .inl (aC 0, 6, .inl (fun _ => 0)),
  .inl (aC 0, 6, .inl (fun _ => 0)),
  .inl (aC 0, 7, .inl (fun _ => 0)),
  .inr (0, [.ref (((z + 1) + 112) + 0), .ref (((z + 1) + 112) + 1)]),
  .inl (aC 0, 128, .inl (fun _ => 0)),
  .inl (aC 0, 128, .inl (fun _ => 0)),
  .inr (4, [.ref (((z + 1) + 115) + 0), .ref (((z + 1) + 115) + 1)]),
  .inl (aC 0, 6, .inl (fun _ => 0)),
  .inl (aC 0, 6, .inl (fun _ => 0)),
  .inr (5, [.int 0]),
  .inr (8, [.int 0, .int 0, .int 0, .int 0, .int 0, .ref (((z + 1) + 119) + 0), .ref (((z + 1) + 119) + 1), .ref (((z + 1) + 119) + 2), .ref (((z + 1) + 119) + 3), .ref (((z + 1) + 119) + 4), .ref (((z + 1) + 119) + 5), .ref (((z + 1) + 119) + 6), .ref (((z + 1) + 119) + 7), .ref (((z + 1) + 119) + 8), .ref (((z + 1) + 119) + 9)]),
  .inl (aC 0, 6, .inl (fun _ => 0)),
  .inl (aC 0, 6, .inl (fun _ => 0)),
  .inl (aC 0, 7, .inl (fun _ => 0)),
  .inl (aC 0, 7, .inl (fun _ => 0)),
  .inl (aC 0, 7, .inl (fun _ => 0)),
  .inl (aC 0, 7, .inl (fun _ => 0)),
  .inl (aC 0, 7, .inl (fun _ => 0)),
  .inl (aC 0, 7, .inl (fun _ => 0)),
  .inl (aC 0, 7, .inl (fun _ => 0)),
  .inr (6, [.int 0, .ref ((((z + 1) + 119) + 10) + 0), .ref ((((z + 1) + 119) + 10) + 1), .ref ((((z + 1) + 119) + 10) + 2), .int 0, .ref ((((z + 1) + 119) + 10) + 6), .ref ((((z + 1) + 119) + 10) + 7), .ref ((((z + 1) + 119) + 10) + 8), .ref ((((z + 1) + 119) + 10) + 9), .int 0, .ref ((((z + 1) + 119) + 10) + 10), .ref ((((z + 1) + 119) + 10) + 11)]),
  .inl (aC 0, 3, .inl (fun _ => 0)),
  .inl (aC 0, 3, .inl (fun _ => 0)),
  .inl (aC 4, 3, .inr (.inr (.inr (.inr (fun i => if i < 3 then some ((((z + 1) + 119) + 10) + 2 + 1 + i) else none))))),
  .inl (aC 0, 6, .inl (fun _ => 0)),
  .inl (aC 0, 6, .inl (fun _ => 0)),
  .inl (aC 0, 6, .inl (fun _ => 0)),
  .inl (aC 0, 5, .inl (fun _ => 0)),
  .inl (aC 0, 5, .inl (fun _ => 0)),
  .inl (aC 0, 5, .inl (fun _ => 0)),
  .inl (aC 0, 5, .inl (fun _ => 0)),
  .inl (aC 0, 125, .inl (fun _ => 0)),
  .inl (aC 0, 4, .inl (fun _ => 0)),
  .inr (10, [.int 0, .ref ((z + 143) + 0), .int 0, .int 0, .int 0, .int 0, .int 0, .int 0, .int 0, .int 0, .int (zI (-1)), .int 0, .ref ((z + 143) + 1), .int 0, .int 0, .ref ((z + 143) + 2), .ref ((z + 143) + 3), .ref ((z + 143) + 4), .ref ((z + 143) + 5), .ref ((z + 143) + 6), .int 0, .int 0, .ref ((z + 143) + 7), .ref ((z + 143) + 8), .int 0, .int 0, .ref ((z + 143) + 9), .ref ((z + 143) + 10), .ref ((z + 143) + 11), .ref ((z + 143) + 12), .int 0, .int 0, .int 0, .int 0, .int 0]),
  .inl (aC 0, 900, .inl (fun _ => 0)),
  .inl (aC 0, 8, .inl (fun _ => 0)),
  .inl (aC 0, 219, .inl (fun _ => 0)),
  .inl (aC 0, 219, .inl (fun _ => 0)),
  .inl (aC 0, 22, .inl (fun _ => 0)),
  .inl (aC 0, 352, .inl (fun _ => 0)),
  .inl (aC 0, 66, .inl (fun _ => 0)),
  .inl (aC 0, 7, .inl (fun _ => 0)),
  .inl (aC 0, 7, .inl (fun _ => 0)),
  .inl (aC 0, 3, .inl (fun _ => 0)),
  .inl (aC 0, 3, .inl (fun _ => 0)),
  .inl (aC 0, 18, .inl (fun _ => 0)),
  .inl (aC 0, 984, .inl (fun _ => 0)),
  .inl (aC 2, 1, .inr (.inl (fun _ => 0)))]
theorem ES_flat {aC : Nat → ClassId} {z : Nat} : ES aC z = ESF aC z := by
  simp only [ES, ESF, nF_X10, nF_X4, nF_X8, nF_X9, nF_X7, nF_X3, nF_X2, histX, hFs, nF_X0, nF_X5, nF_X6, nF_X11, iA, bA, lgA, qA, List.cons_append, List.nil_append, List.append_nil]
def SA (D : va_G) (aC : Nat → ClassId) (z : Nat) (H : Heap) : Prop := ∀ (K : Nat), K < 157 → va_at D vwCl (z + K, vsel (ESF aC z) K) H
def SG (D : va_G) (aC : Nat → ClassId) (z b : Nat) (tk : Nat → Nat) (H : Heap) (i : Nat) : Prop := va_at D vwCl (adS z b tk i, gcell aC (adS z b tk) gh0 i) H
theorem adS_inj {z b : Nat} {tk : Nat → Nat} : gInj (adS z b tk) := by
  intro i j hi hj h
  unfold NN at hi hj
  unfold adS at h
  split at h <;> split at h <;> (try split at h) <;> (try split at h) <;> (try split at h) <;> (try split at h) <;> (try split at h) <;> omega
theorem adS_ge {z b : Nat} {tk : Nat → Nat} (i : Nat) (hi : i < NN) : z ≤ adS z b tk i := by
  unfold NN at hi
  unfold adS
  repeat' first | omega | split
theorem adS_mid {z b : Nat} {tk : Nat → Nat} {i x : Nat} (h1 : 52 ≤ i) (h2 : i < 142) (hx : i = x + 23) : adS z b tk i = z + x := by
  unfold adS
  rw [if_neg (by omega), if_neg (by omega), if_pos h2]
  omega
theorem adS_tx {z b : Nat} {tk : Nat → Nat} {i : Nat} (h : i < 20) : adS z b tk (1000 + i) = tk i := by
  unfold adS
  rw [if_neg (by omega), if_neg (by omega), if_neg (by omega), if_neg (by omega), if_neg (by omega)]
  rw [show 1000 + i - 1000 = i by omega]
theorem fQ_at {b : Nat} : ∀ (k j : Nat), j < k → fQ b k j = some (b + 4 * j)
  | 0, j, h => absurd h (Nat.not_lt_zero j)
  | k + 1, j, h => by
    show va_up (fQ b k) k (some (b + 4 * k)) j = _
    unfold va_up
    by_cases e : j = k
    · rw [if_pos e, e]
    · rw [if_neg e]
      exact fQ_at k j (by omega)
section SG
variable {D : va_G} {aC : Nat → ClassId} {z b : Nat} {tk : Nat → Nat} {H : Heap}
theorem sg_obj {i K ci : Nat} {ks : List (Nat × Nat)} (h : SA D aC z H) (hs : shp i = .inl (ci, ks)) (ha : adS z b tk i = z + K) (hK : K < 157) (he : vsel (ESF aC z) K = (.inr (ci, (gfs (gh0.1 i) (gh0.2.1 i) gh0.2.2 0 ks).map (gv (adS z b tk))))) : SG D aC z b tk H i := by
  unfold SG gcell
  rw [ha, hs]
  have w := h K hK
  rw [he] at w
  exact w
theorem sg_arr {i K t n b' s' : Nat} (h : SA D aC z H) (hs : shp i = .inr (t, n, b', s')) (ht : t < 2) (h0 : ∀ j, gh0.1 i j = 0) (ha : adS z b tk i = z + K) (hK : K < 157) (he : vsel (ESF aC z) K = (.inl (aC t, n, .inl (fun _ => 0)))) : SG D aC z b tk H i := by
  have ez : (fun j => zI (gh0.1 i j)) = (fun _ => (0 : Int32)) := by
    funext j
    rw [h0]
    rfl
  have e : gcell aC (adS z b tk) gh0 i = .inl (aC t, n, .inl (fun _ => 0)) := by
    unfold gcell
    rw [hs]
    rcases (show t = 0 ∨ t = 1 by omega) with rfl | rfl
    · show (Sum.inl (aC 0, n, Sum.inl (fun j => zI (gh0.1 i j))) : va_E) = _
      rw [ez]
    · show (Sum.inl (aC 1, n, Sum.inl (fun j => zI (gh0.1 i j))) : va_E) = _
      rw [ez]
  unfold SG
  rw [e, ha]
  have w := h K hK
  rw [he] at w
  exact w
theorem sg_lng {i K n b' s' : Nat} (h : SA D aC z H) (hs : shp i = .inr (2, n, b', s')) (ha : adS z b tk i = z + K) (hK : K < 157) (he : vsel (ESF aC z) K = (.inl (aC 2, n, .inr (.inl (fun _ => 0))))) : SG D aC z b tk H i := by
  have ez : (fun j => zL (gh0.2.1 i j)) = (fun _ => (0 : Int64)) := by
    funext j
    rfl
  have e : gcell aC (adS z b tk) gh0 i = .inl (aC 2, n, .inr (.inl (fun _ => 0))) := by
    unfold gcell
    rw [hs]
    show (Sum.inl (aC 2, n, Sum.inr (Sum.inl (fun j => zL (gh0.2.1 i j)))) : va_E) = _
    rw [ez]
  unfold SG
  rw [e, ha]
  have w := h K hK
  rw [he] at w
  exact w
theorem arrV_eq {cI : ClassId} {N : Nat} {f g : Nat → Value} (h : ∀ j, j < N → f j = g j) : arrV cI N f = arrV cI N g := by
  have e : (fun j : Fin N => f j.val) = (fun j : Fin N => g j.val) := by
    funext j
    exact h j.val j.isLt
  unfold arrV
  rw [e]
theorem sg_ref {i K t n b' s' : Nat} {f : Nat → Option Nat} (h : SA D aC z H) (hs : shp i = .inr (t, n, b', s')) (ht : t = 3 ∨ t = 4) (ha : adS z b tk i = z + K) (hK : K < 157) (he : vsel (ESF aC z) K = (.inl (aC t, n, .inr (.inr (.inr (.inr f)))))) (hf : ∀ j, j < n → f j = some (adS z b tk (b' + s' * j))) : SG D aC z b tk H i := by
  have e : gcell aC (adS z b tk) gh0 i = .inl (aC t, n, .inr (.inr (.inr (.inr (fun j => some (adS z b tk (b' + s' * j))))))) := by
    unfold gcell
    rw [hs]
    rcases ht with rfl | rfl <;> rfl
  unfold SG
  rw [e, ha]
  have w := h K hK
  rw [he] at w
  show H[z + K]? = some (arrV (aC t) n (fun j => va_rf (some (adS z b tk (b' + s' * j)))))
  rw [← arrV_eq (f := fun j => va_rf (f j)) (fun j hj => by show va_rf (f j) = _; rw [hf j hj])]
  exact w
set_option maxHeartbeats 100000 in
theorem sg_0 (h : SA D aC z H) : SG D aC z b tk H 0 := sg_obj (K := 0) h rfl rfl (by decide) rfl
set_option maxHeartbeats 100000 in
theorem sg_1 (h : SA D aC z H) : SG D aC z b tk H 1 := sg_obj (K := 1) h rfl rfl (by decide) rfl
set_option maxHeartbeats 100000 in
theorem sg_3 (h : SA D aC z H) : SG D aC z b tk H 3 := sg_arr (K := 3) h rfl (by decide) (fun _ => rfl) rfl (by decide) rfl
set_option maxHeartbeats 100000 in
theorem sg_4 (h : SA D aC z H) : SG D aC z b tk H 4 := sg_lng (K := 4) h rfl rfl (by decide) rfl
set_option maxHeartbeats 100000 in
theorem sg_7 (h : SA D aC z H) : SG D aC z b tk H 7 := sg_arr (K := 7) h rfl (by decide) (fun _ => rfl) rfl (by decide) rfl
set_option maxHeartbeats 100000 in
theorem sg_19 (h : SA D aC z H) : SG D aC z b tk H 19 := sg_ref (K := 19) h rfl (Or.inr rfl) rfl (by decide) rfl (fun j hj => (match j, hj with | 0, _ => rfl | 1, _ => rfl | 2, _ => rfl))
set_option maxHeartbeats 100000 in
theorem sg_30 (h : SA D aC z H) : SG D aC z b tk H 30 := sg_arr (K := 120) h rfl (by decide) (fun _ => rfl) rfl (by decide) rfl
set_option maxHeartbeats 100000 in
theorem sg_52 (h : SA D aC z H) : SG D aC z b tk H 52 := sg_obj (K := 29) h rfl rfl (by decide) rfl
set_option maxHeartbeats 100000 in
theorem sg_57 (h : SA D aC z H) : SG D aC z b tk H 57 := sg_ref (K := 34) (f := fQ (z + 1 + 33 + 2) 16) h rfl (Or.inl rfl) rfl (by decide) rfl (fun j hj => by
  rw [fQ_at 16 j hj, adS_mid (x := 36 + 4 * j) (by omega) (by omega) (by omega)]
  congr 1
  omega)
set_option maxHeartbeats 100000 in
theorem sg_58 (h : SA D aC z H) : SG D aC z b tk H 58 := sg_ref (K := 35) (f := fQ (z + 1 + 33 + 66) 3) h rfl (Or.inl rfl) rfl (by decide) rfl (fun j hj => by
  rw [fQ_at 3 j hj, adS_mid (x := 100 + 4 * j) (by omega) (by omega) (by omega)]
  congr 1
  omega)
set_option maxHeartbeats 100000 in
theorem sg_142 (h : SA D aC z H) : SG D aC z b tk H 142 := sg_obj (K := 142) h rfl rfl (by decide) rfl
set_option maxHeartbeats 100000 in
theorem sg_143 (h : SA D aC z H) : SG D aC z b tk H 143 := sg_arr (K := 143) h rfl (by decide) (fun _ => rfl) rfl (by decide) rfl
set_option maxHeartbeats 100000 in
theorem sg_156 (h : SA D aC z H) : SG D aC z b tk H 156 := sg_lng (K := 156) h rfl rfl (by decide) rfl
end SG
