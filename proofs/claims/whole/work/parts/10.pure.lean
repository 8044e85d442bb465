/-! helpers: answers, bits, sums, folds -/
theorem vI {a b : Int} (h : a = b) : Value.int (zI a) = Value.int (zI b) := by rw [h]
theorem vL {a b : Int} (h : a = b) : Value.long (zL a) = Value.long (zL b) := by rw [h]
def bI (c : Bool) : Int := if c then 1 else 0
theorem bI_t {c : Bool} (h : c = true) : bI c = 1 := by rw [h]; rfl
theorem bI_f {c : Bool} (h : c = false) : bI c = 0 := by rw [h]; rfl
theorem bI_01 (c : Bool) : bI c = 0 ∨ bI c = 1 := by cases c <;> simp [bI]
theorem gnZ (c : Bool) : narrow .boolean (.int (zI (bI c))) = .int (zI (bI c)) := by cases c <;> rfl
theorem gnZ1 {x : Int} (h : x = 0 ∨ x = 1) : narrow .boolean (.int (zI x)) = .int (zI x) := by rcases h with rfl | rfl <;> rfl
theorem gR_i {a b : Int} {h : gH} (e : b = a) : gR (.int (zI a)) h (some (.int (zI b))) h := ⟨by rw [e], rfl⟩
theorem gR_l {a b : Int} {h : gH} (e : b = a) : gR (.long (zL a)) h (some (.long (zL b))) h := ⟨by rw [e], rfl⟩
theorem gR_t {c : Bool} {h : gH} (e : c = true) : gR (.int (zI (bI c))) h (some (.int (zI 1))) h := ⟨by rw [e]; rfl, rfl⟩
theorem gR_f {c : Bool} {h : gH} (e : c = false) : gR (.int (zI (bI c))) h (some (.int (zI 0))) h := ⟨by rw [e]; rfl, rfl⟩
section BROWS
variable {own : String} {cc : ByteArray} {nL : Nat} {rt : Option FieldType} {d pc pc' : Nat} {ls : List (Option Value)} {st : List Value} {h : gH} {Q : Option Value → gH → Prop}
theorem gj_ifB_eq {off : Int} {c : Bool} {tgt : Nat} (hd : decode cc pc = .ok (.ifCond .eq off, 3)) (ht : (pc : Int) + off = (tgt : Int)) (hp : pc + 3 = pc') (kt : c = false → gJ own cc nL rt d tgt ls st h Q) (kf : c = true → gJ own cc nL rt d pc' ls st h Q) : gJ own cc nL rt d pc ls (.int (zI (bI c)) :: st) h Q := by
  have hb := bI_01 c
  refine gj_if_eq hd ht hp (by omega) (fun q => kt ?_) (fun q => kf ?_)
  · cases c <;> simp_all [bI]
  · cases c <;> simp_all [bI]
theorem gj_ifB_ne {off : Int} {c : Bool} {tgt : Nat} (hd : decode cc pc = .ok (.ifCond .ne off, 3)) (ht : (pc : Int) + off = (tgt : Int)) (hp : pc + 3 = pc') (kt : c = true → gJ own cc nL rt d tgt ls st h Q) (kf : c = false → gJ own cc nL rt d pc' ls st h Q) : gJ own cc nL rt d pc ls (.int (zI (bI c)) :: st) h Q := by
  have hb := bI_01 c
  refine gj_if_ne hd ht hp (by omega) (fun q => kt ?_) (fun q => kf ?_)
  · cases c <;> simp_all [bI]
  · cases c <;> simp_all [bI]
theorem gJ_st {st' : List Value} (k : gJ own cc nL rt d pc ls st' h Q) (e : st = st') : gJ own cc nL rt d pc ls st h Q := e ▸ k
theorem gJ_h {h' : gH} (k : gJ own cc nL rt d pc ls st h' Q) (e : h = h') : gJ own cc nL rt d pc ls st h Q := e ▸ k
theorem gJ_t {a b : Int} (k : gJ own cc nL rt d pc ls (.int (zI b) :: st) h Q) (e : a = b) : gJ own cc nL rt d pc ls (.int (zI a) :: st) h Q := e ▸ k
end BROWS
-- bits of Nats
theorem zI_bv (n : Nat) : (zI (n : Int)).toBitVec = BitVec.ofNat 32 n := by
  show BitVec.ofInt 32 (n : Int) = _
  exact BitVec.ofInt_natCast 32 n
theorem zI_tn {n : Nat} (h : n < 2 ^ 32) : (zI (n : Int)).toBitVec.toNat = n := by
  rw [zI_bv, BitVec.toNat_ofNat, Nat.mod_eq_of_lt h]
theorem i32_toInt_small {x : Int32} (h : x.toBitVec.toNat < 2 ^ 31) : x.toInt = (x.toBitVec.toNat : Int) := by
  show x.toBitVec.toInt = _
  rw [BitVec.toInt_eq_toNat_of_lt (by omega)]
theorem bt_and {m n : Nat} (hm : m < 2 ^ 31) (hn : n < 2 ^ 32) : (zI (m : Int) &&& zI (n : Int)).toInt = ((m &&& n : Nat) : Int) := by
  have e : (zI (m : Int) &&& zI (n : Int)).toBitVec.toNat = m &&& n := by
    rw [Int32.toBitVec_and, BitVec.toNat_and, zI_tn (by omega), zI_tn hn]
  rw [i32_toInt_small (by rw [e]; exact Nat.lt_of_le_of_lt Nat.and_le_left hm), e]
theorem bt_or {m n : Nat} (hm : m < 2 ^ 31) (hn : n < 2 ^ 31) : (zI (m : Int) ||| zI (n : Int)).toInt = ((m ||| n : Nat) : Int) := by
  have e : (zI (m : Int) ||| zI (n : Int)).toBitVec.toNat = m ||| n := by
    rw [Int32.toBitVec_or, BitVec.toNat_or, zI_tn (by omega), zI_tn (by omega)]
  rw [i32_toInt_small (by rw [e]; exact Nat.or_lt_two_pow hm hn), e]
theorem bt_cnt : ∀ b, b < 32 → (zI (b : Nat) &&& 31) = nI b := by decide +kernel
theorem bt_cs : ∀ b, b < 32 → (nI b).toBitVec.smod 32 = BitVec.ofNat 32 b := by decide +kernel
theorem bt_shr {m b : Nat} (hm : m < 2 ^ 31) (hb : b < 32) : (zI (m : Int) >>> (zI (b : Int) &&& 31)).toInt = ((m / 2 ^ b : Nat) : Int) := by
  rw [bt_cnt b hb, ← zI_nI m, pk_shrN hm (nI b) b (by rw [bt_cs b hb, BitVec.toNat_ofNat]; omega), zI_nI]
  have := Nat.div_le_self m (2 ^ b)
  generalize m / 2 ^ b = q at this ⊢
  exact zI_toInt ⟨by omega, by omega⟩
theorem bt_shl {m b : Nat} (hb : b < 32) (h : m * 2 ^ b < 2 ^ 31) : (zI (m : Int) <<< (zI (b : Int) &&& 31)).toInt = ((m * 2 ^ b : Nat) : Int) := by
  rw [bt_cnt b hb, ← zI_nI m, pk_shlN (nI b) b (by rw [bt_cs b hb, BitVec.toNat_ofNat]; omega) (by omega), zI_nI]
  exact zI_toInt ⟨by omega, by omega⟩
theorem bt_one {m b : Nat} : m / 2 ^ b &&& 1 = (m.testBit b).toNat := by
  rw [Nat.and_one_is_mod, Nat.testBit_eq_decide_div_mod_eq]
  rcases Nat.mod_two_eq_zero_or_one (m / 2 ^ b) with q | q <;> rw [q] <;> rfl
theorem bI_nat (c : Bool) : ((c.toNat : Nat) : Int) = bI c := by cases c <;> rfl
/-- m without the bits of g -/
def nWo (m g : Nat) : Nat := m ^^^ (m &&& g)
theorem nWo_bit (m g i : Nat) : (nWo m g).testBit i = (m.testBit i && !g.testBit i) := by
  unfold nWo
  rw [Nat.testBit_xor, Nat.testBit_and]
  cases m.testBit i <;> cases g.testBit i <;> rfl
theorem nWo_le (m g : Nat) : nWo m g ≤ m := by
  refine Nat.le_of_testBit ?_
  intro i hi
  rw [nWo_bit] at hi
  simp only [Bool.and_eq_true] at hi
  exact hi.1
theorem bt_wo {m g : Nat} (hm : m < 2 ^ 31) (hg : g < 2 ^ 31) : (zI (m : Int) &&& zI ((zI (g : Int) ^^^ zI (-1)).toInt)).toInt = ((nWo m g : Nat) : Int) := by
  have e : (zI (m : Int) &&& zI ((zI (g : Int) ^^^ zI (-1)).toInt)).toBitVec.toNat = nWo m g := by
    rw [zI_of, Int32.toBitVec_and, BitVec.toNat_and, zI_tn (by omega), Int32.toBitVec_xor]
    apply Nat.eq_of_testBit_eq
    intro i
    rw [Nat.testBit_and, nWo_bit, ← BitVec.getLsbD, BitVec.getLsbD_xor, zI_bv, BitVec.getLsbD_ofNat]
    rcases Nat.lt_or_ge i 32 with q | q
    · have e1 : (zI (-1)).toBitVec.getLsbD i = true := by
        show (BitVec.ofInt 32 (-1)).getLsbD i = true
        rw [show BitVec.ofInt 32 (-1) = BitVec.allOnes 32 from rfl, BitVec.getLsbD_allOnes]
        simpa using q
      rw [e1]
      simp [q]
    · have : m.testBit i = false := Nat.testBit_lt_two_pow (Nat.lt_of_lt_of_le hm (Nat.pow_le_pow_right (by omega) (by omega)))
      rw [this]; rfl
  rw [i32_toInt_small (by rw [e]; exact Nat.lt_of_le_of_lt (nWo_le m g) hm), e]
theorem testBit_lt {m n i : Nat} (h : m < 2 ^ n) (hi : n ≤ i) : m.testBit i = false := Nat.testBit_lt_two_pow (Nat.lt_of_lt_of_le h (Nat.pow_le_pow_right (by omega) hi))
-- sums, sets, folds below n
def sN (g : Nat → Nat) : Nat → Nat
  | 0 => 0
  | n + 1 => sN g n + g n
def bN (p : Nat → Bool) : Nat → Nat
  | 0 => 0
  | n + 1 => bN p n + (if p n then 2 ^ n else 0)
def fN {α : Type} (step : Nat → α → α) (a : α) : Nat → α
  | 0 => a
  | n + 1 => step n (fN step a n)
theorem bN_lt (p : Nat → Bool) : ∀ n, bN p n < 2 ^ n
  | 0 => by simp [bN]
  | n + 1 => by
    have := bN_lt p n
    unfold bN
    split <;> omega
theorem bN_or (p : Nat → Bool) (n : Nat) : bN p n ||| 1 * 2 ^ n = bN p n + 2 ^ n := by
  have h := bN_lt p n
  have e := Nat.two_pow_add_eq_or_of_lt h 1
  rw [Nat.mul_one] at e
  rw [Nat.one_mul, Nat.or_comm, ← e, Nat.add_comm]
theorem bN_t {p : Nat → Bool} {n : Nat} (h : p n = true) : bN p (n + 1) = bN p n + 2 ^ n := by simp [bN, h]
theorem bN_f {p : Nat → Bool} {n : Nat} (h : p n = false) : bN p (n + 1) = bN p n := by simp [bN, h]
theorem bN_bit (p : Nat → Bool) : ∀ n i, (bN p n).testBit i = (decide (i < n) && p i)
  | 0, i => by simp [bN]
  | n + 1, i => by
    have ih := bN_bit p n i
    have hl := bN_lt p n
    cases hp : p n with
    | false =>
      rw [bN_f hp, ih]
      by_cases hi : i = n
      · subst hi; simp [hp]
      · by_cases h2 : i < n
        · simp [h2, show i < n + 1 by omega]
        · simp [h2, show ¬ i < n + 1 by omega]
    | true =>
      rw [bN_t hp, ← bN_or, Nat.testBit_or, ih, Nat.one_mul, Nat.testBit_two_pow]
      by_cases hi : i = n
      · subst hi; simp [hp]
      · have hi2 : ¬ n = i := fun q => hi q.symm
        by_cases h2 : i < n
        · simp [h2, show i < n + 1 by omega, hi2]
        · simp [h2, show ¬ i < n + 1 by omega, hi2]
theorem bN_congr {p q : Nat → Bool} : ∀ {n : Nat}, (∀ i, i < n → p i = q i) → bN p n = bN q n
  | 0, _ => rfl
  | n + 1, h => by
    unfold bN
    rw [bN_congr (fun i hi => h i (by omega)), h n (by omega)]
theorem sN_congr {f g : Nat → Nat} : ∀ {n : Nat}, (∀ i, i < n → f i = g i) → sN f n = sN g n
  | 0, _ => rfl
  | n + 1, h => by
    unfold sN
    rw [sN_congr (fun i hi => h i (by omega)), h n (by omega)]
theorem sN_le {f : Nat → Nat} {c : Nat} : ∀ {n : Nat}, (∀ i, i < n → f i ≤ c) → sN f n ≤ c * n
  | 0, _ => by simp [sN]
  | n + 1, h => by
    unfold sN
    have h1 := sN_le (f := f) (c := c) (n := n) (fun i hi => h i (by omega))
    have h2 := h n (by omega)
    rw [Nat.mul_succ]
    omega
/-- how many bits of the lowest eight -/
def pcN (m : Nat) : Nat := sN (fun k => (m.testBit k).toNat) 8
theorem pcN_le (m : Nat) : pcN m ≤ 8 := by
  have := sN_le (f := fun k => (m.testBit k).toNat) (c := 1) (n := 8) (fun i _ => Bool.toNat_le _)
  unfold pcN
  omega
