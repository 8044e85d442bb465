/-! the law's start: the cells as they are laid are the pure heap's first state -/
def ES (aC : Nat → ClassId) (z : Nat) : List va_E := [.inr (9, (nF_X10 aC (z + 1)).1)] ++ (nF_X10 aC (z + 1)).2 ++ [.inr (10, (nF_X11 aC (z + 143)).1)] ++ (nF_X11 aC (z + 143)).2 ++ [.inl (aC 2, ((1, .inr (.inl (fun _ => 0))) : vp_A))]
def adS (z b : Nat) (tk : Nat → Nat) (i : Nat) : Nat := if i < 29 then z + i else if i < 52 then z + (i + 90) else if i < 142 then z + (i - 23) else if i < 157 then z + i else if i = 2000 then b else tk (i - 1000)
def gh0 : gH := (fun o k => if o = 142 then (if k = 10 then -1 else 0) else 0, fun _ _ => 0, fun a => if a = 0 then 29 else 6)
def vsel : List va_E → Nat → va_E
  | [], _ => .inr (0, [])
  | a :: _, 0 => a
  | _ :: l, n + 1 => vsel l n
theorem vsel_at : ∀ (l : List va_E) (K : Nat), K < l.length → l[K]? = some (vsel l K)
  | [], K, h => absurd h (Nat.not_lt_zero K)
  | a :: l, 0, h => rfl
  | a :: l, K + 1, h => by
    rw [List.getElem?_cons_succ]
    exact vsel_at l K (Nat.lt_of_succ_lt_succ h)
def ESF (aC : Nat → ClassId) (z : Nat) : List va_E := [.inr (9, [.ref ((z + 1) + 0), .ref ((z + 1) + 28), .ref ((z + 1) + 32), .ref ((z + 1) + 111), .ref ((z + 1) + 114), .ref ((z + 1) + 117), .ref ((z + 1) + 118), .int 0, .int 0, .int 0]),
  .inr (3, [.ref (((z + 1) + 1) + 0), .ref (((z + 1) + 1) + 2), .ref (((z + 1) + 1) + 3), .int 0, .int 0, .int 0, .int 0, .int 0, .ref (((z + 1) + 1) + 4)]),
  .inr (7, [.ref ((((z + 1) + 1) + 1) + 0), .int 0, .int 0, .int 0, .int 0, .int 0, .int 0, .long 0]),
  .inl (aC 1, 900, .inl (fun _ => 0)),
  .inl (aC 2, 16, .inr (.inl (fun _ => 0))),
  .inl (aC 0, 16, .inl (fun _ => 0)),
  .inr (8, [.int 0, .int 0, .int 0, .int 0, .int 0, .ref ((((z + 1) + 1) + 5) + 0), .ref ((((z + 1) + 1) + 5) + 1), .ref ((((z + 1) + 1) + 5) + 2), .ref ((((z + 1) + 1) + 5) + 3), .ref ((((z + 1) + 1) + 5) + 4), .ref ((((z + 1) + 1) + 5) + 5), .ref ((((z + 1) + 1) + 5) + 6), .ref ((((z + 1) + 1) + 5) + 7), .ref ((((z + 1) + 1) + 5) + 8), .ref ((((z + 1) + 1) + 5) + 9)]),
  .inl (aC 0, 6, .inl (fun _ => 0)),
  .inl (aC 0, 6, .inl (fun _ => 0)),
  .inl (aC 0, 7, .inl (fun _ => 0)),
  .inl (aC 0, 7, .inl (fun _ => 0)),
  .inl (aC 0, 7, .inl (fun _ => 0)),
  .inl (aC 0, 7, .inl (fun _ => 0)),
  .inl (aC 0, 7, .inl (fun _ => 0)),
  .inl (aC 0, 7, .inl (fun _ => 0)),
  .inl (aC 0, 7, .inl (fun _ => 0)),
  .inr (6, [.int 0, .ref (((((z + 1) + 1) + 5) + 10) + 0), .ref (((((z + 1) + 1) + 5) + 10) + 1), .ref (((((z + 1) + 1) + 5) + 10) + 2), .int 0, .ref (((((z + 1) + 1) + 5) + 10) + 6), .ref (((((z + 1) + 1) + 5) + 10) + 7), .ref (((((z + 1) + 1) + 5) + 10) + 8), .ref (((((z + 1) + 1) + 5) + 10) + 9), .int 0, .ref (((((z + 1) + 1) + 5) + 10) + 10), .ref (((((z + 1) + 1) + 5) + 10) + 11)]),
  .inl (aC 0, 3, .inl (fun _ => 0)),
  .inl (aC 0, 3, .inl (fun _ => 0)),
  .inl (aC 4, 3, .inr (.inr (.inr (.inr (fun i => if i < 3 then some (((((z + 1) + 1) + 5) + 10) + 2 + 1 + i) else none))))),
  .inl (aC 0, 6, .inl (fun _ => 0)),
  .inl (aC 0, 6, .inl (fun _ => 0)),
  .inl (aC 0, 6, .inl (fun _ => 0)),
  .inl (aC 0, 5, .inl (fun _ => 0)),
  .inl (aC 0, 5, .inl (fun _ => 0)),
  .inl (aC 0, 5, .inl (fun _ => 0)),
  .inl (aC 0, 5, .inl (fun _ => 0)),
  .inl (aC 0, 125, .inl (fun _ => 0)),
  .inl (aC 0, 4, .inl (fun _ => 0)),
  .inr (2, [.int 0, .int 0, .int 0, .ref (((z + 1) + 29) + 0), .ref (((z + 1) + 29) + 1), .ref (((z + 1) + 29) + 2)]),
  .inl (aC 0, 6, .inl (fun _ => 0)),
  .inl (aC 0, 6, .inl (fun _ => 0)),
  .inl (aC 0, 7, .inl (fun _ => 0)),
  .inr (1, [.ref ((z + 1) + 33), .ref (((z + 1) + 33) + 1), .int 0, .int 0, .int 0]),
  .inl (aC 3, 16, .inr (.inr (.inr (.inr (fQ (((z + 1) + 33) + 2) 16))))),
  .inl (aC 3, 3, .inr (.inr (.inr (.inr (fQ (((z + 1) + 33) + 66) 3))))),
  .inr (2, [.int 0, .int 0, .int 0, .ref (((z + 1) + 33) + 3), .ref (((z + 1) + 33) + 4), .ref (((z + 1) + 33) + 5)]),
  .inl (aC 0, 6, .inl (fun _ => 0)),
  .inl (aC 0, 6, .inl (fun _ => 0)),
  .inl (aC 0, 7, .inl (fun _ => 0)),
  .inr (2, [.int 0, .int 0, .int 0, .ref (((z + 1) + 33) + 7), .ref (((z + 1) + 33) + 8), .ref (((z + 1) + 33) + 9)]),
  .inl (aC 0, 6, .inl (fun _ => 0)),
  .inl (aC 0, 6, .inl (fun _ => 0)),
  .inl (aC 0, 7, .inl (fun _ => 0)),
  .inr (2, [.int 0, .int 0, .int 0, .ref (((z + 1) + 33) + 11), .ref (((z + 1) + 33) + 12), .ref (((z + 1) + 33) + 13)]),
  .inl (aC 0, 6, .inl (fun _ => 0)),
  .inl (aC 0, 6, .inl (fun _ => 0)),
  .inl (aC 0, 7, .inl (fun _ => 0)),
  .inr (2, [.int 0, .int 0, .int 0, .ref (((z + 1) + 33) + 15), .ref (((z + 1) + 33) + 16), .ref (((z + 1) + 33) + 17)]),
  .inl (aC 0, 6, .inl (fun _ => 0)),
  .inl (aC 0, 6, .inl (fun _ => 0)),
  .inl (aC 0, 7, .inl (fun _ => 0)),
  .inr (2, [.int 0, .int 0, .int 0, .ref (((z + 1) + 33) + 19), .ref (((z + 1) + 33) + 20), .ref (((z + 1) + 33) + 21)]),
  .inl (aC 0, 6, .inl (fun _ => 0)),
  .inl (aC 0, 6, .inl (fun _ => 0)),
  .inl (aC 0, 7, .inl (fun _ => 0)),
  .inr (2, [.int 0, .int 0, .int 0, .ref (((z + 1) + 33) + 23), .ref (((z + 1) + 33) + 24), .ref (((z + 1) + 33) + 25)]),
  .inl (aC 0, 6, .inl (fun _ => 0)),
  .inl (aC 0, 6, .inl (fun _ => 0)),
  .inl (aC 0, 7, .inl (fun _ => 0)),
  .inr (2, [.int 0, .int 0, .int 0, .ref (((z + 1) + 33) + 27), .ref (((z + 1) + 33) + 28), .ref (((z + 1) + 33) + 29)]),
  .inl (aC 0, 6, .inl (fun _ => 0)),
  .inl (aC 0, 6, .inl (fun _ => 0)),
  .inl (aC 0, 7, .inl (fun _ => 0)),
  .inr (2, [.int 0, .int 0, .int 0, .ref (((z + 1) + 33) + 31), .ref (((z + 1) + 33) + 32), .ref (((z + 1) + 33) + 33)]),
  .inl (aC 0, 6, .inl (fun _ => 0)),
  .inl (aC 0, 6, .inl (fun _ => 0)),
  .inl (aC 0, 7, .inl (fun _ => 0)),
  .inr (2, [.int 0, .int 0, .int 0, .ref (((z + 1) + 33) + 35), .ref (((z + 1) + 33) + 36), .ref (((z + 1) + 33) + 37)]),
  .inl (aC 0, 6, .inl (fun _ => 0)),
  .inl (aC 0, 6, .inl (fun _ => 0)),
  .inl (aC 0, 7, .inl (fun _ => 0)),
  .inr (2, [.int 0, .int 0, .int 0, .ref (((z + 1) + 33) + 39), .ref (((z + 1) + 33) + 40), .ref (((z + 1) + 33) + 41)]),
  .inl (aC 0, 6, .inl (fun _ => 0)),
  .inl (aC 0, 6, .inl (fun _ => 0)),
  .inl (aC 0, 7, .inl (fun _ => 0)),
  .inr (2, [.int 0, .int 0, .int 0, .ref (((z + 1) + 33) + 43), .ref (((z + 1) + 33) + 44), .ref (((z + 1) + 33) + 45)]),
  .inl (aC 0, 6, .inl (fun _ => 0)),
  .inl (aC 0, 6, .inl (fun _ => 0)),
  .inl (aC 0, 7, .inl (fun _ => 0)),
  .inr (2, [.int 0, .int 0, .int 0, .ref (((z + 1) + 33) + 47), .ref (((z + 1) + 33) + 48), .ref (((z + 1) + 33) + 49)]),
  .inl (aC 0, 6, .inl (fun _ => 0)),
  .inl (aC 0, 6, .inl (fun _ => 0)),
  .inl (aC 0, 7, .inl (fun _ => 0)),
  .inr (2, [.int 0, .int 0, .int 0, .ref (((z + 1) + 33) + 51), .ref (((z + 1) + 33) + 52), .ref (((z + 1) + 33) + 53)]),
  .inl (aC 0, 6, .inl (fun _ => 0)),
  .inl (aC 0, 6, .inl (fun _ => 0)),
  .inl (aC 0, 7, .inl (fun _ => 0)),
  .inr (2, [.int 0, .int 0, .int 0, .ref (((z + 1) + 33) + 55), .ref (((z + 1) + 33) + 56), .ref (((z + 1) + 33) + 57)]),
  .inl (aC 0, 6, .inl (fun _ => 0)),
  .inl (aC 0, 6, .inl (fun _ => 0)),
  .inl (aC 0, 7, .inl (fun _ => 0)),
  .inr (2, [.int 0, .int 0, .int 0, .ref (((z + 1) + 33) + 59), .ref (((z + 1) + 33) + 60), .ref (((z + 1) + 33) + 61)]),
  .inl (aC 0, 6, .inl (fun _ => 0)),
  .inl (aC 0, 6, .inl (fun _ => 0)),
  .inl (aC 0, 7, .inl (fun _ => 0)),
  .inr (2, [.int 0, .int 0, .int 0, .ref (((z + 1) + 33) + 63), .ref (((z + 1) + 33) + 64), .ref (((z + 1) + 33) + 65)]),
  .inl (aC 0, 6, .inl (fun _ => 0)),
  .inl (aC 0, 6, .inl (fun _ => 0)),
  .inl (aC 0, 7, .inl (fun _ => 0)),
  .inr (2, [.int 0, .int 0, .int 0, .ref (((z + 1) + 33) + 67), .ref (((z + 1) + 33) + 68), .ref (((z + 1) + 33) + 69)]),
  .inl (aC 0, 6, .inl (fun _ => 0)),
  .inl (aC 0, 6, .inl (fun _ => 0)),
  .inl (aC 0, 7, .inl (fun _ => 0)),
  .inr (2, [.int 0, .int 0, .int 0, .ref (((z + 1) + 33) + 71), .ref (((z + 1) + 33) + 72), .ref (((z + 1) + 33) + 73)]),
  .inl (aC 0, 6, .inl (fun _ => 0)),
  .inl (aC 0, 6, .inl (fun _ => 0)),
  .inl (aC 0, 7, .inl (fun _ => 0)),
  .inr (2, [.int 0, .int 0, .int 0, .ref (((z + 1) + 33) + 75), .ref (((z + 1) + 33) + 76), .ref (((z + 1) + 33) + 77)]),
  .inl (aC 0, 6, .inl (fun _ => 0)),
  .inl (aC 0, 6, .inl (fun _ => 0)),
  .inl (aC 0, 7, .inl (fun _ => 0)),
  .inr (0, [.ref (((z + 1) + 112) + 0), .ref (((z + 1) + 112) + 1)]),
  .inl (aC 0, 128, .inl (fun _ => 0)),
  .inl (aC 0, 128, .inl (fun _ => 0)),
  .inr (4, [.ref (((z + 1) + 115) + 0), .ref (((z + 1) + 115) + 1)]),
  .inl (aC 0, 6, .inl (fun _ => 0)),
  .inl (aC 0, 6, .inl (fun _ => 0)),
  .inr (5, [.int 0]),
  .inr (8, [.int 0, .int 0, .int 0, .int 0, .int 0, .ref (((z + 1) + 119) + 0), .ref (((z + 1) + 119) + 1), .ref (((z + 1) + 119) + 2), .ref (((z + 1) + 119) + 3), .ref (((z + 1) + 119) + 4), .ref (((z + 1) + 119) + 5), .ref (((z + 1) + 119) + 6), .ref (((z + 1) + 119) + 7), .ref (((z + 1) + 119) + 8), .ref (((z + 1) + 119) + 9)]),
  .inl (aC 0, 6, .inl (fun _ => 0)),
  .inl (aC 0, 6, .inl (fun _ => 0)),
  .inl (aC 0, 7, .inl (fun _ => 0)),
  .inl (aC 0, 7, .inl (fun _ => 0)),
  .inl (aC 0, 7, .inl (fun _ => 0)),
  .inl (aC 0, 7, .inl (fun _ => 0)),
  .inl (aC 0, 7, .inl (fun _ => 0)),
  .inl (aC 0, 7, .inl (fun _ => 0)),
  .inl (aC 0, 7, .inl (fun _ => 0)),
  .inr (6, [.int 0, .ref ((((z + 1) + 119) + 10) + 0), .ref ((((z + 1) + 119) + 10) + 1), .ref ((((z + 1) + 119) + 10) + 2), .int 0, .ref ((((z + 1) + 119) + 10) + 6), .ref ((((z + 1) + 119) + 10) + 7), .ref ((((z + 1) + 119) + 10) + 8), .ref ((((z + 1) + 119) + 10) + 9), .int 0, .ref ((((z + 1) + 119) + 10) + 10), .ref ((((z + 1) + 119) + 10) + 11)]),
  .inl (aC 0, 3, .inl (fun _ => 0)),
  .inl (aC 0, 3, .inl (fun _ => 0)),
  .inl (aC 4, 3, .inr (.inr (.inr (.inr (fun i => if i < 3 then some ((((z + 1) + 119) + 10) + 2 + 1 + i) else none))))),
  .inl (aC 0, 6, .inl (fun _ => 0)),
  .inl (aC 0, 6, .inl (fun _ => 0)),
  .inl (aC 0, 6, .inl (fun _ => 0)),
  .inl (aC 0, 5, .inl (fun _ => 0)),
  .inl (aC 0, 5, .inl (fun _ => 0)),
  .inl (aC 0, 5, .inl (fun _ => 0)),
  .inl (aC 0, 5, .inl (fun _ => 0)),
  .inl (aC 0, 125, .inl (fun _ => 0)),
  .inl (aC 0, 4, .inl (fun _ => 0)),
  .inr (10, [.int 0, .ref ((z + 143) + 0), .int 0, .int 0, .int 0, .int 0, .int 0, .int 0, .int 0, .int 0, .int (zI (-1)), .int 0, .ref ((z + 143) + 1), .int 0, .int 0, .ref ((z + 143) + 2), .ref ((z + 143) + 3), .ref ((z + 143) + 4), .ref ((z + 143) + 5), .ref ((z + 143) + 6), .int 0, .int 0, .ref ((z + 143) + 7), .ref ((z + 143) + 8), .int 0, .int 0, .ref ((z + 143) + 9), .ref ((z + 143) + 10), .ref ((z + 143) + 11), .ref ((z + 143) + 12), .int 0, .int 0, .int 0, .int 0, .int 0]),
  .inl (aC 0, 900, .inl (fun _ => 0)),
  .inl (aC 0, 8, .inl (fun _ => 0)),
  .inl (aC 0, 219, .inl (fun _ => 0)),
  .inl (aC 0, 219, .inl (fun _ => 0)),
  .inl (aC 0, 22, .inl (fun _ => 0)),
  .inl (aC 0, 352, .inl (fun _ => 0)),
  .inl (aC 0, 66, .inl (fun _ => 0)),
  .inl (aC 0, 7, .inl (fun _ => 0)),
  .inl (aC 0, 7, .inl (fun _ => 0)),
  .inl (aC 0, 3, .inl (fun _ => 0)),
  .inl (aC 0, 3, .inl (fun _ => 0)),
  .inl (aC 0, 18, .inl (fun _ => 0)),
  .inl (aC 0, 984, .inl (fun _ => 0)),
  .inl (aC 2, 1, .inr (.inl (fun _ => 0)))]
theorem ES_flat {aC : Nat → ClassId} {z : Nat} : ES aC z = ESF aC z := by
  simp only [ES, ESF, nF_X10, nF_X4, nF_X8, nF_X9, nF_X7, nF_X3, nF_X2, histX, hFs, nF_X0, nF_X5, nF_X6, nF_X11, iA, bA, lgA, qA, List.cons_append, List.nil_append, List.append_nil]
def SA (D : va_G) (aC : Nat → ClassId) (z : Nat) (H : Heap) : Prop := ∀ (K : Nat), K < 157 → va_at D vwCl (z + K, vsel (ESF aC z) K) H
def SG (D : va_G) (aC : Nat → ClassId) (z b : Nat) (tk : Nat → Nat) (H : Heap) (i : Nat) : Prop := va_at D vwCl (adS z b tk i, gcell aC (adS z b tk) gh0 i) H
theorem adS_inj {z b : Nat} {tk : Nat → Nat} : gInj (adS z b tk) := by
  intro i j hi hj h
  unfold NN at hi hj
  unfold adS at h
  split at h <;> split at h <;> (try split at h) <;> (try split at h) <;> (try split at h) <;> (try split at h) <;> (try split at h) <;> omega
theorem adS_ge {z b : Nat} {tk : Nat → Nat} (i : Nat) (hi : i < NN) : z ≤ adS z b tk i := by
  unfold NN at hi
  unfold adS
  repeat' first | omega | split
theorem adS_mid {z b : Nat} {tk : Nat → Nat} {i x : Nat} (h1 : 52 ≤ i) (h2 : i < 142) (hx : i = x + 23) : adS z b tk i = z + x := by
  unfold adS
  rw [if_neg (by omega), if_neg (by omega), if_pos h2]
  omega
theorem adS_tx {z b : Nat} {tk : Nat → Nat} {i : Nat} (h : i < 20) : adS z b tk (1000 + i) = tk i := by
  unfold adS
  rw [if_neg (by omega), if_neg (by omega), if_neg (by omega), if_neg (by omega), if_neg (by omega)]
  rw [show 1000 + i - 1000 = i by omega]
theorem fQ_at {b : Nat} : ∀ (k j : Nat), j < k → fQ b k j = some (b + 4 * j)
  | 0, j, h => absurd h (Nat.not_lt_zero j)
  | k + 1, j, h => by
    show va_up (fQ b k) k (some (b + 4 * k)) j = _
    unfold va_up
    by_cases e : j = k
    · rw [if_pos e, e]
    · rw [if_neg e]
      exact fQ_at k j (by omega)
section SG
variable {D : va_G} {aC : Nat → ClassId} {z b : Nat} {tk : Nat → Nat} {H : Heap}
theorem sg_obj {i K ci : Nat} {ks : List (Nat × Nat)} (h : SA D aC z H) (hs : shp i = .inl (ci, ks)) (ha : adS z b tk i = z + K) (hK : K < 157) (he : vsel (ESF aC z) K = (.inr (ci, (gfs (gh0.1 i) (gh0.2.1 i) gh0.2.2 0 ks).map (gv (adS z b tk))))) : SG D aC z b tk H i := by
  unfold SG gcell
  rw [ha, hs]
  have w := h K hK
  rw [he] at w
  exact w
theorem sg_arr {i K t n b' s' : Nat} (h : SA D aC z H) (hs : shp i = .inr (t, n, b', s')) (ht : t < 2) (h0 : ∀ j, gh0.1 i j = 0) (ha : adS z b tk i = z + K) (hK : K < 157) (he : vsel (ESF aC z) K = (.inl (aC t, n, .inl (fun _ => 0)))) : SG D aC z b tk H i := by
  have ez : (fun j => zI (gh0.1 i j)) = (fun _ => (0 : Int32)) := by
    funext j
    rw [h0]
    rfl
  have e : gcell aC (adS z b tk) gh0 i = .inl (aC t, n, .inl (fun _ => 0)) := by
    unfold gcell
    rw [hs]
    rcases (show t = 0 ∨ t = 1 by omega) with rfl | rfl
    · show (Sum.inl (aC 0, n, Sum.inl (fun j => zI (gh0.1 i j))) : va_E) = _
      rw [ez]
    · show (Sum.inl (aC 1, n, Sum.inl (fun j => zI (gh0.1 i j))) : va_E) = _
      rw [ez]
  unfold SG
  rw [e, ha]
  have w := h K hK
  rw [he] at w
  exact w
theorem sg_lng {i K n b' s' : Nat} (h : SA D aC z H) (hs : shp i = .inr (2, n, b', s')) (ha : adS z b tk i = z + K) (hK : K < 157) (he : vsel (ESF aC z) K = (.inl (aC 2, n, .inr (.inl (fun _ => 0))))) : SG D aC z b tk H i := by
  have ez : (fun j => zL (gh0.2.1 i j)) = (fun _ => (0 : Int64)) := by
    funext j
    rfl
  have e : gcell aC (adS z b tk) gh0 i = .inl (aC 2, n, .inr (.inl (fun _ => 0))) := by
    unfold gcell
    rw [hs]
    show (Sum.inl (aC 2, n, Sum.inr (Sum.inl (fun j => zL (gh0.2.1 i j)))) : va_E) = _
    rw [ez]
  unfold SG
  rw [e, ha]
  have w := h K hK
  rw [he] at w
  exact w
theorem arrV_eq {cI : ClassId} {N : Nat} {f g : Nat → Value} (h : ∀ j, j < N → f j = g j) : arrV cI N f = arrV cI N g := by
  have e : (fun j : Fin N => f j.val) = (fun j : Fin N => g j.val) := by
    funext j
    exact h j.val j.isLt
  unfold arrV
  rw [e]
theorem sg_ref {i K t n b' s' : Nat} {f : Nat → Option Nat} (h : SA D aC z H) (hs : shp i = .inr (t, n, b', s')) (ht : t = 3 ∨ t = 4) (ha : adS z b tk i = z + K) (hK : K < 157) (he : vsel (ESF aC z) K = (.inl (aC t, n, .inr (.inr (.inr (.inr f)))))) (hf : ∀ j, j < n → f j = some (adS z b tk (b' + s' * j))) : SG D aC z b tk H i := by
  have e : gcell aC (adS z b tk) gh0 i = .inl (aC t, n, .inr (.inr (.inr (.inr (fun j => some (adS z b tk (b' + s' * j))))))) := by
    unfold gcell
    rw [hs]
    rcases ht with rfl | rfl <;> rfl
  unfold SG
  rw [e, ha]
  have w := h K hK
  rw [he] at w
  show H[z + K]? = some (arrV (aC t) n (fun j => va_rf (some (adS z b tk (b' + s' * j)))))
  rw [← arrV_eq (f := fun j => va_rf (f j)) (fun j hj => by show va_rf (f j) = _; rw [hf j hj])]
  exact w
theorem sg_0 (h : SA D aC z H) : SG D aC z b tk H 0 := sg_obj (K := 0) h rfl rfl (by decide) rfl
theorem sg_1 (h : SA D aC z H) : SG D aC z b tk H 1 := sg_obj (K := 1) h rfl rfl (by decide) rfl
theorem sg_2 (h : SA D aC z H) : SG D aC z b tk H 2 := sg_obj (K := 2) h rfl rfl (by decide) rfl
theorem sg_3 (h : SA D aC z H) : SG D aC z b tk H 3 := sg_arr (K := 3) h rfl (by decide) (fun _ => rfl) rfl (by decide) rfl
theorem sg_4 (h : SA D aC z H) : SG D aC z b tk H 4 := sg_lng (K := 4) h rfl rfl (by decide) rfl
theorem sg_5 (h : SA D aC z H) : SG D aC z b tk H 5 := sg_arr (K := 5) h rfl (by decide) (fun _ => rfl) rfl (by decide) rfl
theorem sg_6 (h : SA D aC z H) : SG D aC z b tk H 6 := sg_obj (K := 6) h rfl rfl (by decide) rfl
theorem sg_7 (h : SA D aC z H) : SG D aC z b tk H 7 := sg_arr (K := 7) h rfl (by decide) (fun _ => rfl) rfl (by decide) rfl
theorem sg_8 (h : SA D aC z H) : SG D aC z b tk H 8 := sg_arr (K := 8) h rfl (by decide) (fun _ => rfl) rfl (by decide) rfl
theorem sg_9 (h : SA D aC z H) : SG D aC z b tk H 9 := sg_arr (K := 9) h rfl (by decide) (fun _ => rfl) rfl (by decide) rfl
theorem sg_10 (h : SA D aC z H) : SG D aC z b tk H 10 := sg_arr (K := 10) h rfl (by decide) (fun _ => rfl) rfl (by decide) rfl
theorem sg_11 (h : SA D aC z H) : SG D aC z b tk H 11 := sg_arr (K := 11) h rfl (by decide) (fun _ => rfl) rfl (by decide) rfl
theorem sg_12 (h : SA D aC z H) : SG D aC z b tk H 12 := sg_arr (K := 12) h rfl (by decide) (fun _ => rfl) rfl (by decide) rfl
theorem sg_13 (h : SA D aC z H) : SG D aC z b tk H 13 := sg_arr (K := 13) h rfl (by decide) (fun _ => rfl) rfl (by decide) rfl
theorem sg_14 (h : SA D aC z H) : SG D aC z b tk H 14 := sg_arr (K := 14) h rfl (by decide) (fun _ => rfl) rfl (by decide) rfl
theorem sg_15 (h : SA D aC z H) : SG D aC z b tk H 15 := sg_arr (K := 15) h rfl (by decide) (fun _ => rfl) rfl (by decide) rfl
theorem sg_16 (h : SA D aC z H) : SG D aC z b tk H 16 := sg_obj (K := 16) h rfl rfl (by decide) rfl
theorem sg_17 (h : SA D aC z H) : SG D aC z b tk H 17 := sg_arr (K := 17) h rfl (by decide) (fun _ => rfl) rfl (by decide) rfl
theorem sg_18 (h : SA D aC z H) : SG D aC z b tk H 18 := sg_arr (K := 18) h rfl (by decide) (fun _ => rfl) rfl (by decide) rfl
theorem sg_19 (h : SA D aC z H) : SG D aC z b tk H 19 := sg_ref (K := 19) h rfl (Or.inr rfl) rfl (by decide) rfl (fun j hj => (match j, hj with | 0, _ => rfl | 1, _ => rfl | 2, _ => rfl))
theorem sg_20 (h : SA D aC z H) : SG D aC z b tk H 20 := sg_arr (K := 20) h rfl (by decide) (fun _ => rfl) rfl (by decide) rfl
theorem sg_21 (h : SA D aC z H) : SG D aC z b tk H 21 := sg_arr (K := 21) h rfl (by decide) (fun _ => rfl) rfl (by decide) rfl
theorem sg_22 (h : SA D aC z H) : SG D aC z b tk H 22 := sg_arr (K := 22) h rfl (by decide) (fun _ => rfl) rfl (by decide) rfl
theorem sg_23 (h : SA D aC z H) : SG D aC z b tk H 23 := sg_arr (K := 23) h rfl (by decide) (fun _ => rfl) rfl (by decide) rfl
theorem sg_24 (h : SA D aC z H) : SG D aC z b tk H 24 := sg_arr (K := 24) h rfl (by decide) (fun _ => rfl) rfl (by decide) rfl
theorem sg_25 (h : SA D aC z H) : SG D aC z b tk H 25 := sg_arr (K := 25) h rfl (by decide) (fun _ => rfl) rfl (by decide) rfl
theorem sg_26 (h : SA D aC z H) : SG D aC z b tk H 26 := sg_arr (K := 26) h rfl (by decide) (fun _ => rfl) rfl (by decide) rfl
theorem sg_27 (h : SA D aC z H) : SG D aC z b tk H 27 := sg_arr (K := 27) h rfl (by decide) (fun _ => rfl) rfl (by decide) rfl
theorem sg_28 (h : SA D aC z H) : SG D aC z b tk H 28 := sg_arr (K := 28) h rfl (by decide) (fun _ => rfl) rfl (by decide) rfl
theorem sg_29 (h : SA D aC z H) : SG D aC z b tk H 29 := sg_obj (K := 119) h rfl rfl (by decide) rfl
theorem sg_30 (h : SA D aC z H) : SG D aC z b tk H 30 := sg_arr (K := 120) h rfl (by decide) (fun _ => rfl) rfl (by decide) rfl
theorem sg_31 (h : SA D aC z H) : SG D aC z b tk H 31 := sg_arr (K := 121) h rfl (by decide) (fun _ => rfl) rfl (by decide) rfl
theorem sg_32 (h : SA D aC z H) : SG D aC z b tk H 32 := sg_arr (K := 122) h rfl (by decide) (fun _ => rfl) rfl (by decide) rfl
theorem sg_33 (h : SA D aC z H) : SG D aC z b tk H 33 := sg_arr (K := 123) h rfl (by decide) (fun _ => rfl) rfl (by decide) rfl
theorem sg_34 (h : SA D aC z H) : SG D aC z b tk H 34 := sg_arr (K := 124) h rfl (by decide) (fun _ => rfl) rfl (by decide) rfl
theorem sg_35 (h : SA D aC z H) : SG D aC z b tk H 35 := sg_arr (K := 125) h rfl (by decide) (fun _ => rfl) rfl (by decide) rfl
theorem sg_36 (h : SA D aC z H) : SG D aC z b tk H 36 := sg_arr (K := 126) h rfl (by decide) (fun _ => rfl) rfl (by decide) rfl
theorem sg_37 (h : SA D aC z H) : SG D aC z b tk H 37 := sg_arr (K := 127) h rfl (by decide) (fun _ => rfl) rfl (by decide) rfl
theorem sg_38 (h : SA D aC z H) : SG D aC z b tk H 38 := sg_arr (K := 128) h rfl (by decide) (fun _ => rfl) rfl (by decide) rfl
theorem sg_39 (h : SA D aC z H) : SG D aC z b tk H 39 := sg_obj (K := 129) h rfl rfl (by decide) rfl
theorem sg_40 (h : SA D aC z H) : SG D aC z b tk H 40 := sg_arr (K := 130) h rfl (by decide) (fun _ => rfl) rfl (by decide) rfl
theorem sg_41 (h : SA D aC z H) : SG D aC z b tk H 41 := sg_arr (K := 131) h rfl (by decide) (fun _ => rfl) rfl (by decide) rfl
theorem sg_42 (h : SA D aC z H) : SG D aC z b tk H 42 := sg_ref (K := 132) h rfl (Or.inr rfl) rfl (by decide) rfl (fun j hj => (match j, hj with | 0, _ => rfl | 1, _ => rfl | 2, _ => rfl))
theorem sg_43 (h : SA D aC z H) : SG D aC z b tk H 43 := sg_arr (K := 133) h rfl (by decide) (fun _ => rfl) rfl (by decide) rfl
theorem sg_44 (h : SA D aC z H) : SG D aC z b tk H 44 := sg_arr (K := 134) h rfl (by decide) (fun _ => rfl) rfl (by decide) rfl
theorem sg_45 (h : SA D aC z H) : SG D aC z b tk H 45 := sg_arr (K := 135) h rfl (by decide) (fun _ => rfl) rfl (by decide) rfl
theorem sg_46 (h : SA D aC z H) : SG D aC z b tk H 46 := sg_arr (K := 136) h rfl (by decide) (fun _ => rfl) rfl (by decide) rfl
theorem sg_47 (h : SA D aC z H) : SG D aC z b tk H 47 := sg_arr (K := 137) h rfl (by decide) (fun _ => rfl) rfl (by decide) rfl
theorem sg_48 (h : SA D aC z H) : SG D aC z b tk H 48 := sg_arr (K := 138) h rfl (by decide) (fun _ => rfl) rfl (by decide) rfl
theorem sg_49 (h : SA D aC z H) : SG D aC z b tk H 49 := sg_arr (K := 139) h rfl (by decide) (fun _ => rfl) rfl (by decide) rfl
theorem sg_50 (h : SA D aC z H) : SG D aC z b tk H 50 := sg_arr (K := 140) h rfl (by decide) (fun _ => rfl) rfl (by decide) rfl
theorem sg_51 (h : SA D aC z H) : SG D aC z b tk H 51 := sg_arr (K := 141) h rfl (by decide) (fun _ => rfl) rfl (by decide) rfl
theorem sg_52 (h : SA D aC z H) : SG D aC z b tk H 52 := sg_obj (K := 29) h rfl rfl (by decide) rfl
theorem sg_53 (h : SA D aC z H) : SG D aC z b tk H 53 := sg_arr (K := 30) h rfl (by decide) (fun _ => rfl) rfl (by decide) rfl
theorem sg_54 (h : SA D aC z H) : SG D aC z b tk H 54 := sg_arr (K := 31) h rfl (by decide) (fun _ => rfl) rfl (by decide) rfl
theorem sg_55 (h : SA D aC z H) : SG D aC z b tk H 55 := sg_arr (K := 32) h rfl (by decide) (fun _ => rfl) rfl (by decide) rfl
theorem sg_56 (h : SA D aC z H) : SG D aC z b tk H 56 := sg_obj (K := 33) h rfl rfl (by decide) rfl
theorem sg_57 (h : SA D aC z H) : SG D aC z b tk H 57 := sg_ref (K := 34) (f := fQ (z + 1 + 33 + 2) 16) h rfl (Or.inl rfl) rfl (by decide) rfl (fun j hj => by
  rw [fQ_at 16 j hj, adS_mid (x := 36 + 4 * j) (by omega) (by omega) (by omega)]
  congr 1
  omega)
theorem sg_58 (h : SA D aC z H) : SG D aC z b tk H 58 := sg_ref (K := 35) (f := fQ (z + 1 + 33 + 66) 3) h rfl (Or.inl rfl) rfl (by decide) rfl (fun j hj => by
  rw [fQ_at 3 j hj, adS_mid (x := 100 + 4 * j) (by omega) (by omega) (by omega)]
  congr 1
  omega)
theorem sg_59 (h : SA D aC z H) : SG D aC z b tk H 59 := sg_obj (K := 36) h rfl rfl (by decide) rfl
theorem sg_60 (h : SA D aC z H) : SG D aC z b tk H 60 := sg_arr (K := 37) h rfl (by decide) (fun _ => rfl) rfl (by decide) rfl
theorem sg_61 (h : SA D aC z H) : SG D aC z b tk H 61 := sg_arr (K := 38) h rfl (by decide) (fun _ => rfl) rfl (by decide) rfl
theorem sg_62 (h : SA D aC z H) : SG D aC z b tk H 62 := sg_arr (K := 39) h rfl (by decide) (fun _ => rfl) rfl (by decide) rfl
theorem sg_63 (h : SA D aC z H) : SG D aC z b tk H 63 := sg_obj (K := 40) h rfl rfl (by decide) rfl
theorem sg_64 (h : SA D aC z H) : SG D aC z b tk H 64 := sg_arr (K := 41) h rfl (by decide) (fun _ => rfl) rfl (by decide) rfl
theorem sg_65 (h : SA D aC z H) : SG D aC z b tk H 65 := sg_arr (K := 42) h rfl (by decide) (fun _ => rfl) rfl (by decide) rfl
theorem sg_66 (h : SA D aC z H) : SG D aC z b tk H 66 := sg_arr (K := 43) h rfl (by decide) (fun _ => rfl) rfl (by decide) rfl
theorem sg_67 (h : SA D aC z H) : SG D aC z b tk H 67 := sg_obj (K := 44) h rfl rfl (by decide) rfl
theorem sg_68 (h : SA D aC z H) : SG D aC z b tk H 68 := sg_arr (K := 45) h rfl (by decide) (fun _ => rfl) rfl (by decide) rfl
theorem sg_69 (h : SA D aC z H) : SG D aC z b tk H 69 := sg_arr (K := 46) h rfl (by decide) (fun _ => rfl) rfl (by decide) rfl
theorem sg_70 (h : SA D aC z H) : SG D aC z b tk H 70 := sg_arr (K := 47) h rfl (by decide) (fun _ => rfl) rfl (by decide) rfl
theorem sg_71 (h : SA D aC z H) : SG D aC z b tk H 71 := sg_obj (K := 48) h rfl rfl (by decide) rfl
theorem sg_72 (h : SA D aC z H) : SG D aC z b tk H 72 := sg_arr (K := 49) h rfl (by decide) (fun _ => rfl) rfl (by decide) rfl
theorem sg_73 (h : SA D aC z H) : SG D aC z b tk H 73 := sg_arr (K := 50) h rfl (by decide) (fun _ => rfl) rfl (by decide) rfl
theorem sg_74 (h : SA D aC z H) : SG D aC z b tk H 74 := sg_arr (K := 51) h rfl (by decide) (fun _ => rfl) rfl (by decide) rfl
theorem sg_75 (h : SA D aC z H) : SG D aC z b tk H 75 := sg_obj (K := 52) h rfl rfl (by decide) rfl
theorem sg_76 (h : SA D aC z H) : SG D aC z b tk H 76 := sg_arr (K := 53) h rfl (by decide) (fun _ => rfl) rfl (by decide) rfl
theorem sg_77 (h : SA D aC z H) : SG D aC z b tk H 77 := sg_arr (K := 54) h rfl (by decide) (fun _ => rfl) rfl (by decide) rfl
theorem sg_78 (h : SA D aC z H) : SG D aC z b tk H 78 := sg_arr (K := 55) h rfl (by decide) (fun _ => rfl) rfl (by decide) rfl
theorem sg_79 (h : SA D aC z H) : SG D aC z b tk H 79 := sg_obj (K := 56) h rfl rfl (by decide) rfl
theorem sg_80 (h : SA D aC z H) : SG D aC z b tk H 80 := sg_arr (K := 57) h rfl (by decide) (fun _ => rfl) rfl (by decide) rfl
theorem sg_81 (h : SA D aC z H) : SG D aC z b tk H 81 := sg_arr (K := 58) h rfl (by decide) (fun _ => rfl) rfl (by decide) rfl
theorem sg_82 (h : SA D aC z H) : SG D aC z b tk H 82 := sg_arr (K := 59) h rfl (by decide) (fun _ => rfl) rfl (by decide) rfl
theorem sg_83 (h : SA D aC z H) : SG D aC z b tk H 83 := sg_obj (K := 60) h rfl rfl (by decide) rfl
theorem sg_84 (h : SA D aC z H) : SG D aC z b tk H 84 := sg_arr (K := 61) h rfl (by decide) (fun _ => rfl) rfl (by decide) rfl
theorem sg_85 (h : SA D aC z H) : SG D aC z b tk H 85 := sg_arr (K := 62) h rfl (by decide) (fun _ => rfl) rfl (by decide) rfl
theorem sg_86 (h : SA D aC z H) : SG D aC z b tk H 86 := sg_arr (K := 63) h rfl (by decide) (fun _ => rfl) rfl (by decide) rfl
theorem sg_87 (h : SA D aC z H) : SG D aC z b tk H 87 := sg_obj (K := 64) h rfl rfl (by decide) rfl
theorem sg_88 (h : SA D aC z H) : SG D aC z b tk H 88 := sg_arr (K := 65) h rfl (by decide) (fun _ => rfl) rfl (by decide) rfl
theorem sg_89 (h : SA D aC z H) : SG D aC z b tk H 89 := sg_arr (K := 66) h rfl (by decide) (fun _ => rfl) rfl (by decide) rfl
theorem sg_90 (h : SA D aC z H) : SG D aC z b tk H 90 := sg_arr (K := 67) h rfl (by decide) (fun _ => rfl) rfl (by decide) rfl
theorem sg_91 (h : SA D aC z H) : SG D aC z b tk H 91 := sg_obj (K := 68) h rfl rfl (by decide) rfl
theorem sg_92 (h : SA D aC z H) : SG D aC z b tk H 92 := sg_arr (K := 69) h rfl (by decide) (fun _ => rfl) rfl (by decide) rfl
theorem sg_93 (h : SA D aC z H) : SG D aC z b tk H 93 := sg_arr (K := 70) h rfl (by decide) (fun _ => rfl) rfl (by decide) rfl
theorem sg_94 (h : SA D aC z H) : SG D aC z b tk H 94 := sg_arr (K := 71) h rfl (by decide) (fun _ => rfl) rfl (by decide) rfl
theorem sg_95 (h : SA D aC z H) : SG D aC z b tk H 95 := sg_obj (K := 72) h rfl rfl (by decide) rfl
theorem sg_96 (h : SA D aC z H) : SG D aC z b tk H 96 := sg_arr (K := 73) h rfl (by decide) (fun _ => rfl) rfl (by decide) rfl
theorem sg_97 (h : SA D aC z H) : SG D aC z b tk H 97 := sg_arr (K := 74) h rfl (by decide) (fun _ => rfl) rfl (by decide) rfl
theorem sg_98 (h : SA D aC z H) : SG D aC z b tk H 98 := sg_arr (K := 75) h rfl (by decide) (fun _ => rfl) rfl (by decide) rfl
theorem sg_99 (h : SA D aC z H) : SG D aC z b tk H 99 := sg_obj (K := 76) h rfl rfl (by decide) rfl
theorem sg_100 (h : SA D aC z H) : SG D aC z b tk H 100 := sg_arr (K := 77) h rfl (by decide) (fun _ => rfl) rfl (by decide) rfl
theorem sg_101 (h : SA D aC z H) : SG D aC z b tk H 101 := sg_arr (K := 78) h rfl (by decide) (fun _ => rfl) rfl (by decide) rfl
theorem sg_102 (h : SA D aC z H) : SG D aC z b tk H 102 := sg_arr (K := 79) h rfl (by decide) (fun _ => rfl) rfl (by decide) rfl
theorem sg_103 (h : SA D aC z H) : SG D aC z b tk H 103 := sg_obj (K := 80) h rfl rfl (by decide) rfl
theorem sg_104 (h : SA D aC z H) : SG D aC z b tk H 104 := sg_arr (K := 81) h rfl (by decide) (fun _ => rfl) rfl (by decide) rfl
theorem sg_105 (h : SA D aC z H) : SG D aC z b tk H 105 := sg_arr (K := 82) h rfl (by decide) (fun _ => rfl) rfl (by decide) rfl
theorem sg_106 (h : SA D aC z H) : SG D aC z b tk H 106 := sg_arr (K := 83) h rfl (by decide) (fun _ => rfl) rfl (by decide) rfl
theorem sg_107 (h : SA D aC z H) : SG D aC z b tk H 107 := sg_obj (K := 84) h rfl rfl (by decide) rfl
theorem sg_108 (h : SA D aC z H) : SG D aC z b tk H 108 := sg_arr (K := 85) h rfl (by decide) (fun _ => rfl) rfl (by decide) rfl
theorem sg_109 (h : SA D aC z H) : SG D aC z b tk H 109 := sg_arr (K := 86) h rfl (by decide) (fun _ => rfl) rfl (by decide) rfl
theorem sg_110 (h : SA D aC z H) : SG D aC z b tk H 110 := sg_arr (K := 87) h rfl (by decide) (fun _ => rfl) rfl (by decide) rfl
theorem sg_111 (h : SA D aC z H) : SG D aC z b tk H 111 := sg_obj (K := 88) h rfl rfl (by decide) rfl
theorem sg_112 (h : SA D aC z H) : SG D aC z b tk H 112 := sg_arr (K := 89) h rfl (by decide) (fun _ => rfl) rfl (by decide) rfl
theorem sg_113 (h : SA D aC z H) : SG D aC z b tk H 113 := sg_arr (K := 90) h rfl (by decide) (fun _ => rfl) rfl (by decide) rfl
theorem sg_114 (h : SA D aC z H) : SG D aC z b tk H 114 := sg_arr (K := 91) h rfl (by decide) (fun _ => rfl) rfl (by decide) rfl
theorem sg_115 (h : SA D aC z H) : SG D aC z b tk H 115 := sg_obj (K := 92) h rfl rfl (by decide) rfl
theorem sg_116 (h : SA D aC z H) : SG D aC z b tk H 116 := sg_arr (K := 93) h rfl (by decide) (fun _ => rfl) rfl (by decide) rfl
theorem sg_117 (h : SA D aC z H) : SG D aC z b tk H 117 := sg_arr (K := 94) h rfl (by decide) (fun _ => rfl) rfl (by decide) rfl
theorem sg_118 (h : SA D aC z H) : SG D aC z b tk H 118 := sg_arr (K := 95) h rfl (by decide) (fun _ => rfl) rfl (by decide) rfl
theorem sg_119 (h : SA D aC z H) : SG D aC z b tk H 119 := sg_obj (K := 96) h rfl rfl (by decide) rfl
theorem sg_120 (h : SA D aC z H) : SG D aC z b tk H 120 := sg_arr (K := 97) h rfl (by decide) (fun _ => rfl) rfl (by decide) rfl
theorem sg_121 (h : SA D aC z H) : SG D aC z b tk H 121 := sg_arr (K := 98) h rfl (by decide) (fun _ => rfl) rfl (by decide) rfl
theorem sg_122 (h : SA D aC z H) : SG D aC z b tk H 122 := sg_arr (K := 99) h rfl (by decide) (fun _ => rfl) rfl (by decide) rfl
theorem sg_123 (h : SA D aC z H) : SG D aC z b tk H 123 := sg_obj (K := 100) h rfl rfl (by decide) rfl
theorem sg_124 (h : SA D aC z H) : SG D aC z b tk H 124 := sg_arr (K := 101) h rfl (by decide) (fun _ => rfl) rfl (by decide) rfl
theorem sg_125 (h : SA D aC z H) : SG D aC z b tk H 125 := sg_arr (K := 102) h rfl (by decide) (fun _ => rfl) rfl (by decide) rfl
theorem sg_126 (h : SA D aC z H) : SG D aC z b tk H 126 := sg_arr (K := 103) h rfl (by decide) (fun _ => rfl) rfl (by decide) rfl
theorem sg_127 (h : SA D aC z H) : SG D aC z b tk H 127 := sg_obj (K := 104) h rfl rfl (by decide) rfl
theorem sg_128 (h : SA D aC z H) : SG D aC z b tk H 128 := sg_arr (K := 105) h rfl (by decide) (fun _ => rfl) rfl (by decide) rfl
theorem sg_129 (h : SA D aC z H) : SG D aC z b tk H 129 := sg_arr (K := 106) h rfl (by decide) (fun _ => rfl) rfl (by decide) rfl
theorem sg_130 (h : SA D aC z H) : SG D aC z b tk H 130 := sg_arr (K := 107) h rfl (by decide) (fun _ => rfl) rfl (by decide) rfl
theorem sg_131 (h : SA D aC z H) : SG D aC z b tk H 131 := sg_obj (K := 108) h rfl rfl (by decide) rfl
theorem sg_132 (h : SA D aC z H) : SG D aC z b tk H 132 := sg_arr (K := 109) h rfl (by decide) (fun _ => rfl) rfl (by decide) rfl
theorem sg_133 (h : SA D aC z H) : SG D aC z b tk H 133 := sg_arr (K := 110) h rfl (by decide) (fun _ => rfl) rfl (by decide) rfl
theorem sg_134 (h : SA D aC z H) : SG D aC z b tk H 134 := sg_arr (K := 111) h rfl (by decide) (fun _ => rfl) rfl (by decide) rfl
theorem sg_135 (h : SA D aC z H) : SG D aC z b tk H 135 := sg_obj (K := 112) h rfl rfl (by decide) rfl
theorem sg_136 (h : SA D aC z H) : SG D aC z b tk H 136 := sg_arr (K := 113) h rfl (by decide) (fun _ => rfl) rfl (by decide) rfl
theorem sg_137 (h : SA D aC z H) : SG D aC z b tk H 137 := sg_arr (K := 114) h rfl (by decide) (fun _ => rfl) rfl (by decide) rfl
theorem sg_138 (h : SA D aC z H) : SG D aC z b tk H 138 := sg_obj (K := 115) h rfl rfl (by decide) rfl
theorem sg_139 (h : SA D aC z H) : SG D aC z b tk H 139 := sg_arr (K := 116) h rfl (by decide) (fun _ => rfl) rfl (by decide) rfl
theorem sg_140 (h : SA D aC z H) : SG D aC z b tk H 140 := sg_arr (K := 117) h rfl (by decide) (fun _ => rfl) rfl (by decide) rfl
theorem sg_141 (h : SA D aC z H) : SG D aC z b tk H 141 := sg_obj (K := 118) h rfl rfl (by decide) rfl
theorem sg_142 (h : SA D aC z H) : SG D aC z b tk H 142 := sg_obj (K := 142) h rfl rfl (by decide) rfl
theorem sg_143 (h : SA D aC z H) : SG D aC z b tk H 143 := sg_arr (K := 143) h rfl (by decide) (fun _ => rfl) rfl (by decide) rfl
theorem sg_144 (h : SA D aC z H) : SG D aC z b tk H 144 := sg_arr (K := 144) h rfl (by decide) (fun _ => rfl) rfl (by decide) rfl
theorem sg_145 (h : SA D aC z H) : SG D aC z b tk H 145 := sg_arr (K := 145) h rfl (by decide) (fun _ => rfl) rfl (by decide) rfl
theorem sg_146 (h : SA D aC z H) : SG D aC z b tk H 146 := sg_arr (K := 146) h rfl (by decide) (fun _ => rfl) rfl (by decide) rfl
theorem sg_147 (h : SA D aC z H) : SG D aC z b tk H 147 := sg_arr (K := 147) h rfl (by decide) (fun _ => rfl) rfl (by decide) rfl
theorem sg_148 (h : SA D aC z H) : SG D aC z b tk H 148 := sg_arr (K := 148) h rfl (by decide) (fun _ => rfl) rfl (by decide) rfl
theorem sg_149 (h : SA D aC z H) : SG D aC z b tk H 149 := sg_arr (K := 149) h rfl (by decide) (fun _ => rfl) rfl (by decide) rfl
theorem sg_150 (h : SA D aC z H) : SG D aC z b tk H 150 := sg_arr (K := 150) h rfl (by decide) (fun _ => rfl) rfl (by decide) rfl
theorem sg_151 (h : SA D aC z H) : SG D aC z b tk H 151 := sg_arr (K := 151) h rfl (by decide) (fun _ => rfl) rfl (by decide) rfl
theorem sg_152 (h : SA D aC z H) : SG D aC z b tk H 152 := sg_arr (K := 152) h rfl (by decide) (fun _ => rfl) rfl (by decide) rfl
theorem sg_153 (h : SA D aC z H) : SG D aC z b tk H 153 := sg_arr (K := 153) h rfl (by decide) (fun _ => rfl) rfl (by decide) rfl
theorem sg_154 (h : SA D aC z H) : SG D aC z b tk H 154 := sg_arr (K := 154) h rfl (by decide) (fun _ => rfl) rfl (by decide) rfl
theorem sg_155 (h : SA D aC z H) : SG D aC z b tk H 155 := sg_arr (K := 155) h rfl (by decide) (fun _ => rfl) rfl (by decide) rfl
theorem sg_156 (h : SA D aC z H) : SG D aC z b tk H 156 := sg_lng (K := 156) h rfl rfl (by decide) rfl
end SG
