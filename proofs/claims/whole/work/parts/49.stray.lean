/-! strays: candidates by their digits; the class's rows -/
def gDg (n c s : Nat) : Nat := c / 2 ^ (3 * (n - 1 - s)) % 8
def stT (T : Nat → Nat) (s h : Nat) : Nat := T (55 + 2 * s) + tAp T (T (54 + 2 * s)) h
def stO (T : Nat → Nat) (c h d s : Nat) : Bool := (gDg (T 5) c s == h) && decide (stT T s h ≤ d)
def stN (T : Nat → Nat) (c h d : Nat) : Nat := sN (fun s => (stO T c h d s).toNat) (T 5)
def okB (T : Nat → Nat) (c s : Nat) : Bool := decide (T 3 ≤ gDg (T 5) c s) || (gDg (T 5) c s == T (54 + 2 * s))
def okR (T : Nat → Nat) (c : Nat) : Bool := !anyN (okB T c) (T 5)
def knN (T : Nat → Nat) (k : Nat) : Nat := sN (satN T (T (60 + 3 * k)) (T (61 + 3 * k))) (T 4)
def okD (T : Nat → Nat) (c k : Nat) : Bool := !(knN T k + stN T c (T (60 + 3 * k)) (T (61 + 3 * k)) == T (62 + 3 * k))
def okS (T : Nat → Nat) (c : Nat) : Bool := !anyN (okD T c) (T 6)
def okF (T : Nat → Nat) (c : Nat) : Bool := okR T c && okS T c
def cnt (T : Nat → Nat) (n : Nat) : Nat := sN (fun c => (okF T c).toNat) n
def NC (T : Nat → Nat) : Nat := 2 ^ (3 * T 5)
theorem NC_le {T : Nat → Nat} (hT : TV T) : 1 ≤ NC T ∧ NC T ≤ 512 := by
  have h5 : T 5 ≤ 3 := hT.2.2.2.2.2.1
  have h : 2 ^ (3 * T 5) ≤ 2 ^ 9 := Nat.pow_le_pow_right (by omega) (by omega)
  exact ⟨Nat.one_le_two_pow, h⟩
theorem gDg_lt (n c s : Nat) : gDg n c s < 8 := Nat.mod_lt _ (by omega)
theorem stN_le {T : Nat → Nat} (hT : TV T) (c h d : Nat) : stN T c h d ≤ 3 := by
  have h5 : T 5 ≤ 3 := hT.2.2.2.2.2.1
  have := sN_le (f := fun s => (stO T c h d s).toNat) (c := 1) (n := T 5) (fun i _ => Bool.toNat_le _)
  unfold stN
  omega
theorem satN_le (T : Nat → Nat) (h d b : Nat) : satN T h d b ≤ 1 := by unfold satN; split <;> omega
theorem knN_le {T : Nat → Nat} (hT : TV T) (k : Nat) : knN T k ≤ 7 := by
  have h4 : T 4 ≤ 7 := hT.2.2.2.2.1
  have := sN_le (f := satN T (T (60 + 3 * k)) (T (61 + 3 * k))) (c := 1) (n := T 4) (fun i _ => satN_le T _ _ i)
  unfold knN
  omega
theorem stT_le {T : Nat → Nat} (hT : TV T) {s h : Nat} (hs : s < T 5) (hh : h < T 3) : stT T s h ≤ 178 := by
  have h10 := hT.2.2.2.2.2.2.2.2.2.1 s hs
  have := tAp_le hT h10.1 hh
  unfold stT
  omega
-- at most 125 rows
theorem sN8 (f : Nat → Nat) : ∀ m, sN f (8 * m) = sN (fun a => sN (fun d => f (8 * a + d)) 8) m
  | 0 => rfl
  | m + 1 => by
    have ih := sN8 f m
    have e : sN f (8 * m + 8) = sN f (8 * m) + (0 + f (8 * m + 0) + f (8 * m + 1) + f (8 * m + 2) + f (8 * m + 3) + f (8 * m + 4) + f (8 * m + 5) + f (8 * m + 6) + f (8 * m + 7)) := by
      show sN f (8 * m) + f (8 * m + 0) + f (8 * m + 1) + f (8 * m + 2) + f (8 * m + 3) + f (8 * m + 4) + f (8 * m + 5) + f (8 * m + 6) + f (8 * m + 7) = _
      omega
    show sN f (8 * m + 8) = sN (fun a => sN (fun d => f (8 * a + d)) 8) m + (0 + f (8 * m + 0) + f (8 * m + 1) + f (8 * m + 2) + f (8 * m + 3) + f (8 * m + 4) + f (8 * m + 5) + f (8 * m + 6) + f (8 * m + 7))
    rw [e, ih]
def dgOk (N f d : Nat) : Bool := !(decide (N ≤ d) || (d == f))
theorem dg5 : ∀ N, N ≤ 6 → ∀ f, f < N → sN (fun d => (dgOk N f d).toNat) 8 ≤ 5 := by decide +kernel
theorem sN_mono {f g : Nat → Nat} : ∀ {n : Nat}, (∀ i, i < n → f i ≤ g i) → sN f n ≤ sN g n
  | 0, _ => Nat.le_refl _
  | n + 1, h => by
    have h1 := sN_mono (f := f) (g := g) (n := n) (fun i hi => h i (by omega))
    have h2 := h n (by omega)
    show sN f n + f n ≤ sN g n + g n
    omega
theorem sN_mulc (f : Nat → Nat) (c : Nat) : ∀ n, sN (fun i => f i * c) n = sN f n * c
  | 0 => (Nat.zero_mul c).symm
  | n + 1 => by
    show sN (fun i => f i * c) n + f n * c = (sN f n + f n) * c
    rw [sN_mulc f c n, Nat.add_mul]
/-- one digit more: five times as many at most -/
theorem sN_dig {p q : Nat → Bool} {N f m c : Nat} (hN : N ≤ 6) (hf : f < N) (hp : ∀ a d, d < 8 → p (8 * a + d) = true → q a = true ∧ dgOk N f d = true) (hq : sN (fun a => (q a).toNat) m ≤ c) : sN (fun x => (p x).toNat) (8 * m) ≤ c * 5 := by
  rw [sN8]
  have h1 : sN (fun a => sN (fun d => (p (8 * a + d)).toNat) 8) m ≤ sN (fun a => (q a).toNat * 5) m := sN_mono (fun a _ => by
    show sN (fun d => (p (8 * a + d)).toNat) 8 ≤ (q a).toNat * 5
    cases hqa : q a with
    | false =>
      have : sN (fun d => (p (8 * a + d)).toNat) 8 = 0 := by
        rw [sN_congr (g := fun _ => 0) (fun d hd => by
          show (p (8 * a + d)).toNat = 0
          cases z : p (8 * a + d) with
          | false => rfl
          | true => rw [(hp a d hd z).1] at hqa; cases hqa)]
        exact sN_zero 8
      rw [this]
      exact Nat.zero_le _
    | true =>
      refine Nat.le_trans (sN_mono (g := fun d => (dgOk N f d).toNat) (fun d hd => ?_)) (dg5 N hN f hf)
      show (p (8 * a + d)).toNat ≤ (dgOk N f d).toNat
      cases z : p (8 * a + d) with
      | false => exact Nat.zero_le _
      | true => rw [(hp a d hd z).2]; exact Nat.le_refl _)
  rw [sN_mulc] at h1
  exact Nat.le_trans h1 (Nat.mul_le_mul_right 5 hq)
theorem okR_t {T : Nat → Nat} {c : Nat} : okR T c = true ↔ ∀ s, s < T 5 → gDg (T 5) c s < T 3 ∧ gDg (T 5) c s ≠ T (54 + 2 * s) := by
  unfold okR
  rw [Bool.not_eq_true']
  constructor
  · intro h s hs
    have : okB T c s = false := by
      cases z : okB T c s with
      | false => rfl
      | true => rw [anyN_t.mpr ⟨s, hs, z⟩] at h; cases h
    unfold okB at this
    rw [Bool.or_eq_false_iff, decide_eq_false_iff_not, beq_eq_false_iff_ne] at this
    exact ⟨by omega, this.2⟩
  · intro h
    refine anyN_f (fun s hs => ?_)
    unfold okB
    rw [Bool.or_eq_false_iff, decide_eq_false_iff_not, beq_eq_false_iff_ne]
    have := h s hs
    exact ⟨by omega, this.2⟩
/-- the first k digits of a number of n are right -/
def okP (T : Nat → Nat) (n c : Nat) : Bool := !anyN (fun s => !dgOk (T 3) (T (54 + 2 * s)) (gDg n c s)) n
theorem okP_t {T : Nat → Nat} {n c : Nat} : okP T n c = true ↔ ∀ s, s < n → dgOk (T 3) (T (54 + 2 * s)) (gDg n c s) = true := by
  unfold okP
  rw [Bool.not_eq_true']
  constructor
  · intro h s hs
    cases z : dgOk (T 3) (T (54 + 2 * s)) (gDg n c s) with
    | true => rfl
    | false => rw [anyN_t.mpr ⟨s, hs, by rw [z]; rfl⟩] at h; cases h
  · intro h
    exact anyN_f (fun s hs => by rw [h s hs]; rfl)
theorem gDg_up {n a d s : Nat} (hs : s < n) (hd : d < 8) : gDg (n + 1) (8 * a + d) s = gDg n a s := by
  unfold gDg
  have e : 2 ^ (3 * (n + 1 - 1 - s)) = 8 * 2 ^ (3 * (n - 1 - s)) := by
    rw [show 3 * (n + 1 - 1 - s) = 3 * (n - 1 - s) + 3 by omega, Nat.pow_add, Nat.mul_comm]
  rw [e, ← Nat.div_div_eq_div_mul, show (8 * a + d) / 8 = a by omega]
theorem gDg_last {n a d : Nat} (hd : d < 8) : gDg (n + 1) (8 * a + d) n = d := by
  unfold gDg
  rw [show 3 * (n + 1 - 1 - n) = 0 by omega, Nat.pow_zero, Nat.div_one]
  omega
theorem okP_le {T : Nat → Nat} (h3 : T 3 ≤ 6) : ∀ n, (∀ s, s < n → T (54 + 2 * s) < T 3) → sN (fun c => (okP T n c).toNat) (8 ^ n) ≤ 5 ^ n
  | 0, _ => by
    show 0 + (okP T 0 0).toNat ≤ 1
    have := Bool.toNat_le (okP T 0 0)
    omega
  | n + 1, h => by
    have ih := okP_le h3 n (fun s hs => h s (by omega))
    rw [show 8 ^ (n + 1) = 8 * 8 ^ n from by rw [Nat.pow_succ, Nat.mul_comm], show 5 ^ (n + 1) = 5 ^ n * 5 from Nat.pow_succ 5 n]
    refine sN_dig (q := okP T n) (N := T 3) (f := T (54 + 2 * n)) h3 (h n (by omega)) (fun a d hd hp => ?_) ih
    rw [okP_t] at hp
    constructor
    · rw [okP_t]
      intro s hs
      have := hp s (by omega)
      rw [gDg_up hs hd] at this
      exact this
    · have := hp n (by omega)
      rw [gDg_last hd] at this
      exact this
theorem NC8 (T : Nat → Nat) : NC T = 8 ^ T 5 := by
  unfold NC
  rw [Nat.pow_mul]
theorem cnt_mono {T : Nat → Nat} {a b : Nat} (h : a ≤ b) : cnt T a ≤ cnt T b := by
  obtain ⟨k, rfl⟩ : ∃ k, b = a + k := ⟨b - a, by omega⟩
  clear h
  induction k with
  | zero => exact Nat.le_refl _
  | succ k ih =>
    show cnt T a ≤ cnt T (a + k) + (okF T (a + k)).toNat
    omega
theorem cnt_125 {T : Nat → Nat} (hT : TV T) : cnt T (NC T) ≤ 125 := by
  have h5 : T 5 ≤ 3 := hT.2.2.2.2.2.1
  have h1 := okP_le hT.2.2.2.1.2 (T 5) (fun s hs => (hT.2.2.2.2.2.2.2.2.2.1 s hs).1)
  have h2 : 5 ^ T 5 ≤ 5 ^ 3 := Nat.pow_le_pow_right (by omega) h5
  rw [← NC8] at h1
  have h3 : cnt T (NC T) ≤ sN (fun c => (okP T (T 5) c).toNat) (NC T) := sN_mono (fun c _ => by
    show (okF T c).toNat ≤ (okP T (T 5) c).toNat
    cases z : okF T c with
    | false => exact Nat.zero_le _
    | true =>
      unfold okF at z
      rw [Bool.and_eq_true] at z
      have : okP T (T 5) c = true := by
        rw [okP_t]
        intro s hs
        have := okR_t.mp z.1 s hs
        unfold dgOk
        rw [decide_eq_false (by omega), beq_eq_false_iff_ne.mpr this.2]
        rfl
      rw [this]
      exact Nat.le_refl _)
  omega
theorem cnt_s {T : Nat → Nat} (c : Nat) : cnt T (c + 1) = cnt T c + (okF T c).toNat := rfl
theorem cnt_lt {T : Nat → Nat} {c n : Nat} (h : c < n) (ho : okF T c = true) : cnt T c < cnt T n := by
  have := cnt_mono (T := T) (a := c + 1) (b := n) h
  rw [cnt_s, ho] at this
  have e : true.toNat = 1 := rfl
  omega
theorem cnt_inj {T : Nat → Nat} {c d : Nat} (hc : okF T c = true) (hd : okF T d = true) (h : cnt T c = cnt T d) : c = d := by
  rcases Nat.lt_trichotomy c d with q | q | q
  · have := cnt_lt q hc; omega
  · exact q
  · have := cnt_lt q hd; omega
theorem cnt_ex {T : Nat → Nat} : ∀ {n i : Nat}, i < cnt T n → ∃ c, c < n ∧ okF T c = true ∧ cnt T c = i
  | 0, i, h => absurd h (Nat.not_lt_zero i)
  | n + 1, i, h => by
    rw [cnt_s] at h
    by_cases q : i < cnt T n
    · obtain ⟨c, c1, c2⟩ := cnt_ex q
      exact ⟨c, by omega, c2⟩
    · cases z : okF T n with
      | false =>
        rw [z] at h
        have e : false.toNat = 0 := rfl
        omega
      | true =>
        rw [z] at h
        have e : true.toNat = 1 := rfl
        exact ⟨n, by omega, z, by omega⟩
/-- the i-th row -/
def rwF (T : Nat → Nat) (i : Nat) : Nat := (fstN (fun c => okF T c && (cnt T c == i)) (NC T)).toNat
theorem rwF_ok {T : Nat → Nat} {i : Nat} (h : i < cnt T (NC T)) : rwF T i < NC T ∧ okF T (rwF T i) = true ∧ cnt T (rwF T i) = i := by
  obtain ⟨c, c1, c2, c3⟩ := cnt_ex h
  unfold rwF
  rcases fstN_cs (p := fun c => okF T c && (cnt T c == i)) (NC T) with ⟨_, hf⟩ | ⟨v, v1, e, v2, _⟩
  · have := hf c c1
    simp only [c2, c3, beq_self_eq_true, Bool.and_true] at this
    cases this
  · rw [e, Int.toNat_natCast]
    simp only [Bool.and_eq_true, beq_iff_eq] at v2
    exact ⟨v1, v2.1, v2.2⟩
/-- a sum over the rows is a sum over the candidates -/
theorem rw_sum {T : Nat → Nat} (g : Nat → Nat) : ∀ n, n ≤ NC T → sN (fun i => g (rwF T i)) (cnt T n) = sN (fun c => if okF T c = true then g c else 0) n
  | 0, _ => rfl
  | n + 1, h => by
    have ih := rw_sum (T := T) g n (by omega)
    show _ = sN (fun c => if okF T c = true then g c else 0) n + (if okF T n = true then g n else 0)
    rw [cnt_s, ← ih]
    by_cases z : okF T n = true
    · rw [if_pos z, z]
      show sN (fun i => g (rwF T i)) (cnt T n) + g (rwF T (cnt T n)) = _
      have a := cnt_lt (show n < NC T by omega) z
      obtain ⟨_, b, c⟩ := rwF_ok a
      rw [cnt_inj b z c]
    · rw [if_neg z, show okF T n = false by simpa using z]
      rfl
