/-! constructors: the cells that are laid, one behind another; a judgement for '<init>' -/
def lay : Nat → List va_E → va_W
  | _, [] => []
  | z, e :: l => (z, e) :: lay (z + 1) l
theorem lay_get : ∀ (l : List va_E) (z k : Nat), (lay z l)[k]? = (l[k]?).map (fun e => (z + k, e))
  | [], z, k => by simp [lay]
  | e :: l, z, 0 => by simp [lay]
  | e :: l, z, k + 1 => by
    have ih := lay_get l (z + 1) k
    simp only [lay, List.getElem?_cons_succ, ih]
    rw [show z + 1 + k = z + (k + 1) by omega]
theorem lay_app : ∀ (l l' : List va_E) (z : Nat), lay z (l ++ l') = lay z l ++ lay (z + l.length) l'
  | [], l', z => rfl
  | e :: l, l', z => by
    show (z, e) :: lay (z + 1) (l ++ l') = (z, e) :: (lay (z + 1) l ++ lay (z + (l.length + 1)) l')
    rw [lay_app l l' (z + 1), show z + 1 + l.length = z + (l.length + 1) by omega]
theorem lay_set : ∀ (l : List va_E) (z k : Nat) (e : va_E), (lay z l).set k (z + k, e) = lay z (l.set k e)
  | [], z, k, e => rfl
  | x :: l, z, 0, e => rfl
  | x :: l, z, k + 1, e => by
    show (z, x) :: (lay (z + 1) l).set k (z + (k + 1), e) = (z, x) :: lay (z + 1) (l.set k e)
    rw [show z + (k + 1) = z + 1 + k by omega, lay_set l (z + 1) k e]
def nW (a ci : Nat) (fs : List Value) (z : Nat) (es : List va_E) : va_W := (a, .inr (ci, fs)) :: lay z es
def nA (a z : Nat) : Nat → Prop := fun q => q = a ∨ z ≤ q
theorem nW_get {a ci z k : Nat} {fs : List Value} {es : List va_E} {q : Nat × va_E} (h : (nW a ci fs z es)[k]? = some q) : (k = 0 ∧ q = (a, .inr (ci, fs))) ∨ ∃ j e, k = j + 1 ∧ es[j]? = some e ∧ q = (z + j, e) := by
  cases k with
  | zero =>
    have h2 : some (a, (Sum.inr (ci, fs) : va_E)) = some q := h
    cases h2
    exact Or.inl ⟨rfl, rfl⟩
  | succ j =>
    have h2 : (lay z es)[j]? = some q := h
    rw [lay_get] at h2
    obtain ⟨e, he, rfl⟩ := Option.map_eq_some_iff.mp h2
    exact Or.inr ⟨j, e, rfl, he, rfl⟩
theorem nW_D {a ci z : Nat} {fs : List Value} {es : List va_E} (ha : a < z) : va_D (nA a z) (nW a ci fs z es) := by
  refine ⟨fun i j p q hp hq hpq => ?_, fun k q hq => ?_⟩
  · rcases nW_get hp with ⟨rfl, rfl⟩ | ⟨i', e, rfl, _, rfl⟩
    · rcases nW_get hq with ⟨rfl, rfl⟩ | ⟨j', e', rfl, _, rfl⟩
      · rfl
      · have h : a = z + j' := hpq
        omega
    · rcases nW_get hq with ⟨rfl, rfl⟩ | ⟨j', e', rfl, _, rfl⟩
      · have h : z + i' = a := hpq
        omega
      · have h : z + i' = z + j' := hpq
        omega
  · rcases nW_get hq with ⟨rfl, rfl⟩ | ⟨j', e', rfl, _, rfl⟩
    · exact Or.inl rfl
    · exact Or.inr (Nat.le_add_right _ _)
def rmN (d n q : Nat) : Room := { frames := d, cells := n, slots := q, locals := 64 * d }
/-- the two array classes that the machine looks up by their components -/
def nO (U : State) : Prop := (Cond.arrayOver (.array .int)).before #[] U = true ∧ (Cond.arrayOver (.object RX3)).before #[] U = true
theorem nO.moved {u U : State} (hvm : u.vm.Alike U.vm) (h : nO u) : nO U := ⟨over_moved hvm h.1, va_AO.moved hvm h.2⟩
def nCx (own : String) (cc : ByteArray) (nL : Nat) (p : Program) (s : State) (m : MethodId) (args : Array Value) (meth : Method) (c : Code) (D : va_G) (aC : Nat → ClassId) : Prop := p.tables.exec = Jvm.exec ∧ c.code = cc ∧ c.maxLocals = nL ∧ meth.sig.returnType = none ∧ s.vm.findClass own = some m.cls ∧ (∀ w ∈ gtb, w.before args s = true) ∧ meth.locks = false ∧ meth.name = "<init>" ∧ va_K D vwCl (gtys aC) s ∧ nO s
def nQm (D : va_G) (a z ci n : Nat) (F : List Value × List va_E) : Array Value → State → Outcome → State → Prop := fun _ st oc t => (oc = .returned none ∧ va_P D vwCl (nW a ci F.1 z F.2) t.heap) ∧ va_F (nA a z) st t
def gN (own : String) (cc : ByteArray) (nL d n q : Nat) (aC : Nat → ClassId) (a z ci σ pc : Nat) (ls : List (Option Value)) (st : List Value) (fs : List Value) (es : List va_E) (F : List Value × List va_E) : Prop :=
  ∀ (p : Program) (l : Launch) (e : Env) (s : State) (m : MethodId) (args : Array Value) (below : List Frame) (meth : Method) (c : Code) (D : va_G), nCx own cc nL p s m args meth c D aC → s.heap.size = z → a < z →
  ∀ (H : Heap) (locs : List Loc) (lsA : Array Slot), va_P D vwCl (nW a ci fs z es) H → va_S (nA a z) s.heap H locs → gLs id lsA nL ls →
  W p l e (rmN d n q) s m args below meth c H locs es.length σ (MQ below (nQm D a z ci n F) args s n q (nA a z)) (F0 m pc lsA st)
def nSp (d : Nat) (y : MethodName) (cc : ByteArray) (nL ci n q : Nat) (f0 : List Value) (F : (Nat → ClassId) → Nat → List Value × List va_E) : Prop :=
  ∀ (l : Launch) (D : va_G) (aC : Nat → ClassId) (a z : Nat), a < z → Met l y (Cond.code y cc nL none :: gtb) (rmN d n q) (va_Pc [.ref a] (fun U => U.heap.size = z ∧ va_P D vwCl [(a, .inr (ci, f0))] U.heap ∧ va_K D vwCl (gtys aC) U ∧ nO U)) (nQm D a z ci n (F aC z)) n q (nA a z)
theorem nPre_blind {D : va_G} {aC : Nat → ClassId} {a z ci : Nat} {f0 : List Value} : FrameBlind (va_Pc [.ref a] (fun U => U.heap.size = z ∧ va_P D vwCl [(a, .inr (ci, f0))] U.heap ∧ va_K D vwCl (gtys aC) U ∧ nO U)) := by
  intro a' U g mk q
  obtain ⟨q0, q1, q2, q3, q4⟩ := q
  exact ⟨q0, q1, q2, va_K.moved (u := U) (U := U.calling g mk a') (Vm.Alike.refl U.vm) q3, nO.moved (u := U) (U := U.calling g mk a') (Vm.Alike.refl U.vm) q4⟩
theorem nSp_of {d : Nat} {y : MethodName} {cc : ByteArray} {nL ci n q : Nat} {f0 : List Value} {F : (Nat → ClassId) → Nat → List Value × List va_E} (hy : plainName y.cls = true) (hyn : y.name = "<init>") (hL : 1 ≤ nL) (k : ∀ (aC : Nat → ClassId) (a z : Nat), gN y.cls cc nL d n q aC a z ci 0 0 (some (.ref a) :: List.replicate (nL - 1) none) [] f0 [] (F aC z)) : nSp d y cc nL ci n q f0 F := by
  intro l D aC a z haz
  refine Met.ofW (cc := cc) (maxL := nL) (ret := none) hy rfl ?_
  intro p e s m argsA below meth c s₁ B hml hv
  obtain ⟨rfl, hsz, hP, hK, hO⟩ := hv
  have hts : ∀ w ∈ gtb, w.before (([Value.ref a]).toArray) s = true := fun w hw => atoms_spec (ws := Cond.code y cc nL none :: gtb) B.pre w (List.mem_cons_of_mem _ hw)
  have hown : s.vm.findClass y.cls = some m.cls := findClass_of_methodNamed B.named
  have hin : meth.name = "<init>" := (name_of_methodNamed B.named B.method).1.trans hyn
  subst hsz
  have hl := lv_entry ([.ref a]) (n := nL) hL
  rw [lg_entry_eq]
  refine k aC a _ p l e s m _ below meth c D ⟨B.exec, B.bytes, hml, B.returns, hown, hts, B.notSynchronized, hin, hK, hO⟩ rfl haz s.heap [] _ hP va_S.rf ⟨_, hl, fun i v hi => ?_⟩
  cases i with
  | zero =>
    have h2 : some (some (Value.ref a)) = some (some v) := hi
    cases h2
    exact List.mem_cons_self
  | succ i =>
    rw [List.getElem?_cons_succ] at hi
    have := List.eq_of_mem_replicate (List.mem_of_getElem? hi)
    cases this
section NROWS
variable {own : String} {cc : ByteArray} {nL d n q : Nat} {aC : Nat → ClassId} {a z ci σ pc pc' : Nat} {ls : List (Option Value)} {st : List Value} {fs : List Value} {es : List va_E} {F : List Value × List va_E}
theorem gn_aload0 (hd : decode cc pc = .ok (.aload_n 0, 1)) (hp : pc + 1 = pc') (hl : ls[0]? = some (some (.ref a))) (k : gN own cc nL d n q aC a z ci σ pc' ls (.ref a :: st) fs es F) : gN own cc nL d n q aC a z ci σ pc ls st fs es F := by
  subst hp
  intro p l e s m args below meth c D C hz haz H locs lsA hP hS hL
  obtain ⟨hx, hb, hml, hr, hown, hts, hlocks, hin, hK, hO⟩ := id C
  exact lv_aload_n hx hb hd rfl (hL.at hl) (k p l e s m args below meth c D C hz haz H locs lsA hP hS hL)
theorem gn_dup {v : Value} (hd : decode cc pc = .ok (.dup, 1)) (hp : pc + 1 = pc') (hv : v.category = 1) (k : gN own cc nL d n q aC a z ci σ pc' ls (v :: v :: st) fs es F) : gN own cc nL d n q aC a z ci σ pc ls (v :: st) fs es F := by
  subst hp
  intro p l e s m args below meth c D C hz haz H locs lsA hP hS hL
  obtain ⟨hx, hb, hml, hr, hown, hts, hlocks, hin, hK, hO⟩ := id C
  exact lv_dup hx hb hd hv (k p l e s m args below meth c D C hz haz H locs lsA hP hS hL)
theorem gn_iconst {x : Int} (hd : decode cc pc = .ok (.iconst x, 1)) (hp : pc + 1 = pc') (k : gN own cc nL d n q aC a z ci σ pc' ls (.int (zI x) :: st) fs es F) : gN own cc nL d n q aC a z ci σ pc ls st fs es F := by
  subst hp
  intro p l e s m args below meth c D C hz haz H locs lsA hP hS hL
  obtain ⟨hx, hb, hml, hr, hown, hts, hlocks, hin, hK, hO⟩ := id C
  exact lv_iconst (v := zI x) hx hb hd rfl (k p l e s m args below meth c D C hz haz H locs lsA hP hS hL)
theorem gn_bipush {x : Int} (hd : decode cc pc = .ok (.bipush x, 2)) (hp : pc + 2 = pc') (hn : -128 ≤ x ∧ x ≤ 127) (k : gN own cc nL d n q aC a z ci σ pc' ls (.int (zI x) :: st) fs es F) : gN own cc nL d n q aC a z ci σ pc ls st fs es F := by
  subst hp
  intro p l e s m args below meth c D C hz haz H locs lsA hP hS hL
  obtain ⟨hx, hb, hml, hr, hown, hts, hlocks, hin, hK, hO⟩ := id C
  exact lv_bipush (v := zI x) hx hb hd (by rw [← Int32.toInt_inj, Int8.toInt_toInt32, Int8.toInt_ofInt_of_le (by omega) (by omega), zI_toInt (by omega)]) (k p l e s m args below meth c D C hz haz H locs lsA hP hS hL)
theorem gn_sipush {x : Int} (hd : decode cc pc = .ok (.sipush x, 3)) (hp : pc + 3 = pc') (hn : -32768 ≤ x ∧ x ≤ 32767) (k : gN own cc nL d n q aC a z ci σ pc' ls (.int (zI x) :: st) fs es F) : gN own cc nL d n q aC a z ci σ pc ls st fs es F := by
  subst hp
  intro p l e s m args below meth c D C hz haz H locs lsA hP hS hL
  obtain ⟨hx, hb, hml, hr, hown, hts, hlocks, hin, hK, hO⟩ := id C
  exact lv_sipush (v := zI x) hx hb hd (by rw [← Int32.toInt_inj, Int16.toInt_toInt32, Int16.toInt_ofInt_of_le (by omega) (by omega), zI_toInt (by omega)]) (k p l e s m args below meth c D C hz haz H locs lsA hP hS hL)
theorem gn_obj {idx : Nat} (hd : decode cc pc = .ok (.invokespecial idx, 3)) (hp : pc + 3 = pc') (h1 : Cond.methodLink own idx objectInit ∈ gtb) (h2 : Cond.instanceMethod objectInit ∈ gtb) (h3 : Cond.code objectInit ⟨#[0xb1]⟩ 1 none ∈ gtb) (hd1 : 1 ≤ d) (hst : (st.map fun v => v.category).sum ≤ 8) (k : gN own cc nL d n q aC a z ci σ pc' ls st fs es F) : gN own cc nL d n q aC a z ci σ pc ls (.ref a :: st) fs es F := by
  subst hp
  intro p l e s m args below meth c D C hz haz H locs lsA hP hS hL
  obtain ⟨hx, hb, hml, hr, hown, hts, hlocks, hin, hK, hO⟩ := id C
  refine W.objInit hx hb hown (hts _ h1) (hts _ h2) (hts _ h3) rfl (by rw [hml]; exact hL.size) rfl hd hd1 ?_ ?_
  · show 2 * 0 + (st.map fun v => v.category).sum + 12 ≤ 64 * d
    omega
  · exact k p l e s m args below meth c D C hz haz H locs lsA hP hS hL
theorem gn_ret (hd : decode cc pc = .ok (.return_, 1)) (hn : es.length = n) (hq : σ = q) (hF : F = (fs, es)) : gN own cc nL d n q aC a z ci σ pc ls [] fs es F := by
  subst hn
  subst hq
  subst hF
  intro p l e s m args below meth c D C hz haz H locs lsA hP hS hL
  obtain ⟨hx, hb, hml, hr, hown, hts, hlocks, hin, hK, hO⟩ := id C
  exact W.vret hx hb hr (fun t ht hW => ⟨⟨rfl, by rw [ht]; exact hP⟩, hS.F ht⟩) hS.2.2 hd hlocks
end NROWS
