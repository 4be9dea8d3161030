/-! my own layer: a state of the system is, for each object, its ints by field number and its rows by field number -/
abbrev SO : Type := (Nat → Int32) × (Nat → Nat → Int32)
def upA (f : Nat → Nat → Int32) (k : Nat) (a : Nat → Int32) : Nat → Nat → Int32 := fun j => if j = k then a else f j
def upO (f : Nat → SO) (k : Nat) (a : SO) : Nat → SO := fun j => if j = k then a else f j
abbrev GT : Type := va_G × ClassId × ClassId
abbrev tyK (G : GT) : List (ClassId × FieldType) := [(G.2.1, .int), (G.2.2, .boolean)]
abbrev LV : Type := List (Nat × Value)
/-- the room of a method that calls at most d deep -/
abbrev rmL (d : Nat) : Room := { frames := d + 1, cells := 0, slots := 0, locals := 60 * d + 60 }
def Sm (p : Program) (l : Launch) (e : Env) (R : Room) (s : State) (m : MethodId) (args : Array Value) (below : List Frame) (meth : Method) (c : Code) (G : GT) (A : Nat → Prop) (nL cells slots : Nat) (Q : State → Prop) (pc : Nat) (lv : LV) (st : List Value) (w : va_W) : Prop :=
  ∀ (H : Heap) (locs : List Loc) (ls : Array Slot), va_P G.1 vwCl w H → va_D A w → va_S A s.heap H locs → lv_has ls nL lv → W p l e R s m args below meth c H locs cells slots Q (F0 m pc ls st)
def Cx (p : Program) (R : Room) (s : State) (m : MethodId) (args : Array Value) (meth : Method) (c : Code) (G : GT) (A : Nat → Prop) (nL : Nat) (cc : ByteArray) (Ts : List Cond) (own : String) (ret : Option FieldType) : Prop :=
  p.tables.exec = Jvm.exec ∧ c.code = cc ∧ c.maxLocals = nL ∧ s.vm.findClass own = some m.cls ∧ (∀ w ∈ Ts, w.before args s = true) ∧ va_K G.1 vwCl (tyK G) s ∧ (∀ q : Nat, s.heap.size ≤ q → A q) ∧ meth.locks = false ∧ meth.sig.returnType = ret
theorem Cx.hx {p R s m args meth c G A nL cc Ts own ret} (X : Cx p R s m args meth c G A nL cc Ts own ret) : p.tables.exec = Jvm.exec := X.1
theorem Cx.hb {p R s m args meth c G A nL cc Ts own ret} (X : Cx p R s m args meth c G A nL cc Ts own ret) : c.code = cc := X.2.1
theorem Cx.hml {p R s m args meth c G A nL cc Ts own ret} (X : Cx p R s m args meth c G A nL cc Ts own ret) : c.maxLocals = nL := X.2.2.1
theorem Cx.hown {p R s m args meth c G A nL cc Ts own ret} (X : Cx p R s m args meth c G A nL cc Ts own ret) : s.vm.findClass own = some m.cls := X.2.2.2.1
theorem Cx.hts {p R s m args meth c G A nL cc Ts own ret} (X : Cx p R s m args meth c G A nL cc Ts own ret) : ∀ w ∈ Ts, w.before args s = true := X.2.2.2.2.1
theorem Cx.hK {p R s m args meth c G A nL cc Ts own ret} (X : Cx p R s m args meth c G A nL cc Ts own ret) : va_K G.1 vwCl (tyK G) s := X.2.2.2.2.2.1
theorem Cx.hA {p R s m args meth c G A nL cc Ts own ret} (X : Cx p R s m args meth c G A nL cc Ts own ret) : ∀ q : Nat, s.heap.size ≤ q → A q := X.2.2.2.2.2.2.1
theorem Cx.hlk {p R s m args meth c G A nL cc Ts own ret} (X : Cx p R s m args meth c G A nL cc Ts own ret) : meth.locks = false := X.2.2.2.2.2.2.2.1
theorem Cx.hr {p R s m args meth c G A nL cc Ts own ret} (X : Cx p R s m args meth c G A nL cc Ts own ret) : meth.sig.returnType = ret := X.2.2.2.2.2.2.2.2
/-- what holds behind a method that answers r, makes no cell, and leaves the world w1 -/
def Qci (below : List Frame) (G : GT) (A : Nat → Prop) (args : Array Value) (s : State) (r : Int32) (w1 : va_W) : State → Prop :=
  MQ below (va_Qi (fun (a : Int32) (_ : Unit) => a = r) (fun _ t => va_P G.1 vwCl w1 t.heap ∧ va_K G.1 vwCl (tyK G) t ∧ va_D A w1) A) args s 0 0 A
def Qcv (below : List Frame) (G : GT) (A : Nat → Prop) (args : Array Value) (s : State) (w1 : va_W) : State → Prop :=
  MQ below (va_Qv (fun (_ : Unit) => True) (fun _ t => va_P G.1 vwCl w1 t.heap ∧ va_K G.1 vwCl (tyK G) t ∧ va_D A w1) A) args s 0 0 A
abbrev Pci (G : GT) (av : List Value) (w0 : va_W) (sz : Nat) : Array Value → State → Prop := va_Pc av (fun U => U.heap.size = sz ∧ va_P G.1 vwCl w0 U.heap ∧ va_K G.1 vwCl (tyK G) U ∧ va_D (fun _ => True) w0)
/-- a contract: with the arguments av, in the world w0, the method answers r and leaves w1 -/
def Ci (l : Launch) (G : GT) (y : MethodName) (ws : List Cond) (rm : Room) (av : List Value) (w0 : va_W) (r : Int32) (w1 : va_W) : Prop :=
  ∀ sz : Nat, Met l y ws rm (Pci G av w0 sz) (va_Qi (fun (a : Int32) (_ : Unit) => a = r) (fun _ t => va_P G.1 vwCl w1 t.heap ∧ va_K G.1 vwCl (tyK G) t ∧ va_D (va_A w0 sz) w1) (va_A w0 sz)) 0 0 (va_A w0 sz)
def Cv (l : Launch) (G : GT) (y : MethodName) (ws : List Cond) (rm : Room) (av : List Value) (w0 : va_W) (w1 : va_W) : Prop :=
  ∀ sz : Nat, Met l y ws rm (Pci G av w0 sz) (va_Qv (fun (_ : Unit) => True) (fun _ t => va_P G.1 vwCl w1 t.heap ∧ va_K G.1 vwCl (tyK G) t ∧ va_D (va_A w0 sz) w1) (va_A w0 sz)) 0 0 (va_A w0 sz)
/-- cells put in their places -/
def rp : va_W → List Nat → va_W → va_W
  | w, i :: is, q :: qs => rp (w.set i q) is qs
  | w, _, _ => w
theorem rp_at : ∀ (is : List Nat) (w qs : va_W), is.length = qs.length → ∀ (k : Nat) (q : Nat × va_E), (rp w is qs)[k]? = some q → (∃ j : Nat, qs[j]? = some q) ∨ (w[k]? = some q ∧ k ∉ is)
  | [], w, qs, _, k, q, h => by
    cases qs with
    | nil => exact Or.inr ⟨by simpa [rp] using h, by simp⟩
    | cons a b => exact Or.inr ⟨by simpa [rp] using h, by simp⟩
  | i :: is, w, [], hl, k, q, h => by simp at hl
  | i :: is, w, a :: qs, hl, k, q, h => by
    rcases rp_at is (w.set i a) qs (by simpa using hl) k q (by simpa [rp] using h) with ⟨j, hj⟩ | ⟨h1, h2⟩
    · exact Or.inl ⟨j + 1, by simpa using hj⟩
    · rw [List.getElem?_set] at h1
      by_cases hik : i = k
      · subst hik
        simp only [if_true] at h1
        split at h1
        · exact Or.inl ⟨0, by simpa using h1⟩
        · cases h1
      · rw [if_neg hik] at h1
        exact Or.inr ⟨h1, by simp only [List.mem_cons, not_or]; exact ⟨fun e => hik e.symm, h2⟩⟩
theorem va_D_fst {A : Nat → Prop} {w w2 : va_W} (h : w2.map Prod.fst = w.map Prod.fst) (hD : va_D A w) : va_D A w2 := by
  have hh : ∀ (k : Nat) (q : Nat × va_E), w2[k]? = some q → ∃ e : va_E, w[k]? = some (q.1, e) := by
    intro k q hk
    have h1 : (w2.map Prod.fst)[k]? = some q.1 := by rw [List.getElem?_map, hk]; rfl
    rw [h, List.getElem?_map] at h1
    cases hw : w[k]? with
    | none => rw [hw] at h1; cases h1
    | some z => rw [hw] at h1; exact ⟨z.2, by have := Option.some.inj h1; rw [← this]⟩
  refine ⟨fun i j a b ha hb he => ?_, fun k q hk => ?_⟩
  · obtain ⟨e1, h1⟩ := hh i a ha
    obtain ⟨e2, h2⟩ := hh j b hb
    exact hD.1 i j _ _ h1 h2 he
  · obtain ⟨e1, h1⟩ := hh k q hk
    exact hD.2 k (q.1, e1) h1
theorem rp_P {D : va_G} {cl : List vw_C} {A : Nat → Prop} {w w0 w1 : va_W} {H H1 : Heap} (is : List Nat) (hP : va_P D cl w H) (hD : va_D A w) (hC : is.map (fun i => w[i]?) = w0.map some) (hl : is.length = w1.length) (hP1 : va_P D cl w1 H1) (hk : ∀ q : Nat, q < H.size → ¬ va_A w0 H.size q → H1[q]? = H[q]?) : va_P D cl (rp w is w1) H1 := by
  intro k q hq
  rcases rp_at is w w1 hl k q hq with ⟨j, hj⟩ | ⟨h1, h2⟩
  · exact hP1 j q hj
  · have ha := hP k q h1
    refine ha.kept (hk _ ha.lt ?_)
    rintro (⟨k', e', hk'⟩ | hge)
    · have h3 : (is.map (fun i => w[i]?))[k']? = some (some (q.1, e')) := by rw [hC, List.getElem?_map, hk']; rfl
      rw [List.getElem?_map] at h3
      cases hi : is[k']? with
      | none => rw [hi] at h3; cases h3
      | some i =>
        rw [hi] at h3
        have h4 : w[i]? = some (q.1, e') := Option.some.inj h3
        have := hD.1 k i q _ h1 h4 rfl
        exact h2 (this ▸ List.mem_of_getElem? hi)
    · exact absurd ha.lt (Nat.not_lt.mpr hge)
theorem pci_blind {G : GT} {av : List Value} {w0 : va_W} {sz : Nat} : FrameBlind (Pci G av w0 sz) := fun a U g mk q => by
  obtain ⟨q0, q1, qP, qK, qD⟩ := q
  exact ⟨q0, q1, qP, va_K.moved (u := U) (U := U.calling g mk a) (Vm.Alike.refl U.vm) qK, qD⟩
theorem nar01 {v : Int32} (h : v = 0 ∨ v = 1) : narrow .boolean (.int v) = .int v := by rcases h with rfl | rfl <;> rfl
theorem vnar01 {v : Int32} (h : v = 0 ∨ v = 1) : vp_nar .boolean v = v := by rcases h with rfl | rfl <;> rfl
theorem t_le {a b : Int32} {x y : Int} (ha : a.toInt = x) (hb : b.toInt = y) : a ≤ b ↔ x ≤ y := by rw [Int32.le_iff_toInt_le, ha, hb]
theorem t_lt {a b : Int32} {x y : Int} (ha : a.toInt = x) (hb : b.toInt = y) : a < b ↔ x < y := by rw [Int32.lt_iff_toInt_lt, ha, hb]
theorem sw_ne {x : Int32} {k : Nat} (hk : k < 2147483648) (h : ¬ x = Int32.ofNat k) : ¬ x.toInt = (k : Int) := fun q => h (Int32.toInt_inj.mp (q.trans (nI_toInt hk).symm))
theorem sw_out3 {x : Int32} (h0 : ¬ x = 0) (h1 : ¬ x = 1) (h2 : ¬ x = 2) (h3 : ¬ x = 3) : x.toInt < 0 ∨ 3 < x.toInt := by
  have a0 := sw_ne (k := 0) (by decide) h0
  have a1 := sw_ne (k := 1) (by decide) h1
  have a2 := sw_ne (k := 2) (by decide) h2
  have a3 := sw_ne (k := 3) (by decide) h3
  omega
theorem sw_out5 {x : Int32} (h0 : ¬ x = 0) (h1 : ¬ x = 1) (h2 : ¬ x = 2) (h3 : ¬ x = 3) (h4 : ¬ x = 4) (h5 : ¬ x = 5) : x.toInt < 0 ∨ 5 < x.toInt := by
  have a0 := sw_out3 h0 h1 h2 h3
  have a4 := sw_ne (k := 4) (by decide) h4
  have a5 := sw_ne (k := 5) (by decide) h5
  omega
theorem sw_out12 {x : Int32} (h0 : ¬ x = 0) (h1 : ¬ x = 1) (h2 : ¬ x = 2) (h3 : ¬ x = 3) (h4 : ¬ x = 4) (h5 : ¬ x = 5) (h6 : ¬ x = 6) (h7 : ¬ x = 7) (h8 : ¬ x = 8) (h9 : ¬ x = 9) (h10 : ¬ x = 10) (h11 : ¬ x = 11) (h12 : ¬ x = 12) : x.toInt < 0 ∨ 12 < x.toInt := by
  have a0 := sw_out5 h0 h1 h2 h3 h4 h5
  have a6 := sw_ne (k := 6) (by decide) h6
  have a7 := sw_ne (k := 7) (by decide) h7
  have a8 := sw_ne (k := 8) (by decide) h8
  have a9 := sw_ne (k := 9) (by decide) h9
  have a10 := sw_ne (k := 10) (by decide) h10
  have a11 := sw_ne (k := 11) (by decide) h11
  have a12 := sw_ne (k := 12) (by decide) h12
  omega
/-- an index between Int32 bounds is in its row -/
theorem vin {i b : Int32} {n : Nat} (hb : b.toInt = (n : Int)) (h0 : 0 ≤ i) (h1 : i < b) : vp_in i n := by
  rw [vp_in_iff]
  have a := Int32.le_iff_toInt_le.mp h0
  have c := Int32.lt_iff_toInt_lt.mp h1
  rw [hb] at c
  exact ⟨a, c⟩
theorem i_pos_of {a b : Int32} (h : ¬ a ≤ b) : b < a := Int32.not_le.mp h
/-- what is left over is below the divisor -/
theorem vrem {a d b : Int32} {n : Nat} (hb : b.toInt = (n : Int)) (hd : d ≤ b) (h0 : 0 < d) (ha : 0 ≤ a) : vp_in (a - a / d * d) n := by
  obtain ⟨x, hx, rfl⟩ := nI_of (Int32.not_lt.mpr ha)
  have hd0 : ¬ d < 0 := Int32.not_lt.mpr (Int32.le_of_lt h0)
  obtain ⟨y, hy, rfl⟩ := nI_of hd0
  have y0 : 0 < y := by
    have := Int32.lt_iff_toInt_lt.mp h0
    rw [nI_toInt hy] at this
    exact Int.natCast_pos.mp this
  have hle := Int32.le_iff_toInt_le.mp hd
  rw [nI_toInt hy, hb] at hle
  rw [pk_rem hx y0 hy, vp_in_iff, nI_toInt (Nat.lt_trans (Nat.mod_lt _ y0) hy)]
  have := Nat.mod_lt x y0
  omega
theorem add1 {x y : Int32} (h : x < y) : (x + 1).toInt = x.toInt + 1 := by
  have h1 := Int32.lt_iff_toInt_lt.mp h
  have h2 := y.toInt_lt
  have h3 := x.le_toInt
  rw [Int32.toInt_add]
  have e : (1 : Int32).toInt = 1 := rfl
  rw [e]
  apply Int.bmod_eq_of_le <;> omega
theorem up_lt {x b : Int32} {B : Int} {n : Nat} (hb : b.toInt = B) (h : x < b) (hm : (B - x.toInt).toNat < n + 1) : (B - (x + 1).toInt).toNat < n := by
  have h1 := add1 h
  have h2 := Int32.lt_iff_toInt_lt.mp h
  rw [hb] at h2
  omega
theorem clampInt {x : Int32} (h : 0 ≤ x) : x.toInt = ((x.toNatClampNeg : Nat) : Int) := by
  obtain ⟨j, hj, rfl⟩ := nI_of (Int32.not_lt.mpr h)
  rw [nI_toInt hj, nI_clamp hj]
theorem clampEq {x : Int32} (h : 0 ≤ x) : x = nI x.toNatClampNeg := by
  obtain ⟨j, hj, rfl⟩ := nI_of (Int32.not_lt.mpr h)
  rw [nI_clamp hj]
theorem clampLe {x b : Int32} {n : Nat} (hb : b.toInt = (n : Int)) (h0 : 0 ≤ x) (h : x ≤ b) : x.toNatClampNeg ≤ n := by
  have h1 := Int32.le_iff_toInt_le.mp h
  rw [hb, clampInt h0] at h1
  omega
theorem m_lt {b : Int32} {B : Nat} (h : 0 ≤ b) : ((B : Int) - b.toInt).toNat < B + 1 := by
  have := Int32.le_iff_toInt_le.mp h
  have e : (0 : Int32).toInt = 0 := rfl
  omega
theorem m23 {x : Int32} {n : Nat} (h : vp_in x n) (hn : n ≤ 20) : x * 23 = nI (x.toNatClampNeg * 23) ∧ x.toNatClampNeg * 23 + 23 ≤ n * 23 := by
  obtain ⟨j, hj, rfl⟩ := vp_in_of h (by omega)
  rw [nI_clamp (by omega)]
  exact ⟨pk_mul j 23, by omega⟩
theorem i_lt {a b x : Int32} (h : ¬ a ≤ x) (hl : a ≤ b) : x < b := by
  have h1 := Int32.not_le.mp h
  exact Int32.lt_of_lt_of_le h1 hl
theorem a_nn {x b : Int32} (h0 : 0 ≤ x) (h : x < b) : 0 ≤ x + 1 := by
  rw [Int32.le_iff_toInt_le, add1 h]
  have := Int32.le_iff_toInt_le.mp h0
  have e : (0 : Int32).toInt = 0 := rfl
  omega
section SROWS
variable {p : Program} {l : Launch} {e : Env} {R : Room} {s : State} {m : MethodId} {args : Array Value} {below : List Frame} {meth : Method} {c : Code} {G : GT} {A : Nat → Prop} {nL cells slots : Nat} {Q : State → Prop} {cc : ByteArray} {Ts : List Cond} {own : String} {ret : Option FieldType} {pc : Nat} {lv : LV} {st : List Value} {w : va_W}
theorem s_iconst (X : Cx p R s m args meth c G A nL cc Ts own ret) {n : Int} {v : Int32} (hdg : decode cc pc = .ok (.iconst n, 1)) (hv : Int32.ofInt n = v) (k : Sm p l e R s m args below meth c G A nL cells slots Q (pc + 1) lv (.int v :: st) w) : Sm p l e R s m args below meth c G A nL cells slots Q pc lv (st) w := fun H locs ls hP hD hS hl => lv_iconst X.hx X.hb hdg hv (k H locs ls hP hD hS hl)
theorem s_bipush (X : Cx p R s m args meth c G A nL cc Ts own ret) {n : Int} {v : Int32} (hdg : decode cc pc = .ok (.bipush n, 2)) (hv : (Int8.ofInt n).toInt32 = v) (k : Sm p l e R s m args below meth c G A nL cells slots Q (pc + 2) lv (.int v :: st) w) : Sm p l e R s m args below meth c G A nL cells slots Q pc lv (st) w := fun H locs ls hP hD hS hl => lv_bipush X.hx X.hb hdg hv (k H locs ls hP hD hS hl)
theorem s_sipush (X : Cx p R s m args meth c G A nL cc Ts own ret) {n : Int} {v : Int32} (hdg : decode cc pc = .ok (.sipush n, 3)) (hv : (Int16.ofInt n).toInt32 = v) (k : Sm p l e R s m args below meth c G A nL cells slots Q (pc + 3) lv (.int v :: st) w) : Sm p l e R s m args below meth c G A nL cells slots Q pc lv (st) w := fun H locs ls hP hD hS hl => lv_sipush X.hx X.hb hdg hv (k H locs ls hP hD hS hl)
theorem s_lconst (X : Cx p R s m args meth c G A nL cc Ts own ret) {n : Fin 2} {v : Int64} (hdg : decode cc pc = .ok (.lconst n, 1)) (hv : Int64.ofNat (n : Nat) = v) (k : Sm p l e R s m args below meth c G A nL cells slots Q (pc + 1) lv (.long v :: st) w) : Sm p l e R s m args below meth c G A nL cells slots Q pc lv (st) w := fun H locs ls hP hD hS hl => lv_lconst X.hx X.hb hdg hv (k H locs ls hP hD hS hl)
theorem s_ldc (X : Cx p R s m args meth c G A nL cc Ts own ret) {index : Nat} {v : Int32} (hc : Jvm.Cond.constant own index v ∈ Ts) (hdg : decode cc pc = .ok (.ldc index, 2)) (k : Sm p l e R s m args below meth c G A nL cells slots Q (pc + 2) lv (.int v :: st) w) : Sm p l e R s m args below meth c G A nL cells slots Q pc lv (st) w := fun H locs ls hP hD hS hl => lv_ldc X.hx X.hb X.hown (X.hts _ hc) hdg (k H locs ls hP hD hS hl)
theorem s_ldcw (X : Cx p R s m args meth c G A nL cc Ts own ret) {index : Nat} {v : Int32} (hc : Jvm.Cond.constant own index v ∈ Ts) (hdg : decode cc pc = .ok (.ldc_w index, 3)) (k : Sm p l e R s m args below meth c G A nL cells slots Q (pc + 3) lv (.int v :: st) w) : Sm p l e R s m args below meth c G A nL cells slots Q pc lv (st) w := fun H locs ls hP hD hS hl => lv_ldcw X.hx X.hb X.hown (X.hts _ hc) hdg (k H locs ls hP hD hS hl)
theorem s_ldc2 (X : Cx p R s m args meth c G A nL cc Ts own ret) {index : Nat} {v : Int64} (hc : Jvm.Cond.constantLong own index v ∈ Ts) (hdg : decode cc pc = .ok (.ldc2_w index, 3)) (k : Sm p l e R s m args below meth c G A nL cells slots Q (pc + 3) lv (.long v :: st) w) : Sm p l e R s m args below meth c G A nL cells slots Q pc lv (st) w := fun H locs ls hP hD hS hl => lv_ldc2 X.hx X.hb X.hown (X.hts _ hc) hdg (k H locs ls hP hD hS hl)
theorem s_iload_n (X : Cx p R s m args meth c G A nL cc Ts own ret) {k0 : Fin 4} {x : Int32} (j : Nat) (hdg : decode cc pc = .ok (.iload_n k0, 1)) (hj : lv[j]? = some ((k0 : Nat), .int x)) (k : Sm p l e R s m args below meth c G A nL cells slots Q (pc + 1) lv (.int x :: st) w) : Sm p l e R s m args below meth c G A nL cells slots Q pc lv (st) w := fun H locs ls hP hD hS hl => lv_iload_n X.hx X.hb hdg rfl (lv_at hl j hj) (k H locs ls hP hD hS hl)
theorem s_iload (X : Cx p R s m args meth c G A nL cc Ts own ret) {i : Nat} {x : Int32} (j : Nat) (hdg : decode cc pc = .ok (.iload i, 2)) (hj : lv[j]? = some (i, .int x)) (k : Sm p l e R s m args below meth c G A nL cells slots Q (pc + 2) lv (.int x :: st) w) : Sm p l e R s m args below meth c G A nL cells slots Q pc lv (st) w := fun H locs ls hP hD hS hl => lv_iload X.hx X.hb hdg (lv_at hl j hj) (k H locs ls hP hD hS hl)
theorem s_lload_n (X : Cx p R s m args meth c G A nL cc Ts own ret) {k0 : Fin 4} {x : Int64} (j : Nat) (hdg : decode cc pc = .ok (.lload_n k0, 1)) (hj : lv[j]? = some ((k0 : Nat), .long x)) (k : Sm p l e R s m args below meth c G A nL cells slots Q (pc + 1) lv (.long x :: st) w) : Sm p l e R s m args below meth c G A nL cells slots Q pc lv (st) w := fun H locs ls hP hD hS hl => lv_lload_n X.hx X.hb hdg rfl (lv_at hl j hj) (k H locs ls hP hD hS hl)
theorem s_lload (X : Cx p R s m args meth c G A nL cc Ts own ret) {i : Nat} {x : Int64} (j : Nat) (hdg : decode cc pc = .ok (.lload i, 2)) (hj : lv[j]? = some (i, .long x)) (k : Sm p l e R s m args below meth c G A nL cells slots Q (pc + 2) lv (.long x :: st) w) : Sm p l e R s m args below meth c G A nL cells slots Q pc lv (st) w := fun H locs ls hP hD hS hl => lv_lload X.hx X.hb hdg (lv_at hl j hj) (k H locs ls hP hD hS hl)
theorem s_aload_n (X : Cx p R s m args meth c G A nL cc Ts own ret) {k0 : Fin 4} {x : Nat} (j : Nat) (hdg : decode cc pc = .ok (.aload_n k0, 1)) (hj : lv[j]? = some ((k0 : Nat), .ref x)) (k : Sm p l e R s m args below meth c G A nL cells slots Q (pc + 1) lv (.ref x :: st) w) : Sm p l e R s m args below meth c G A nL cells slots Q pc lv (st) w := fun H locs ls hP hD hS hl => lv_aload_n X.hx X.hb hdg rfl (lv_at hl j hj) (k H locs ls hP hD hS hl)
theorem s_aload (X : Cx p R s m args meth c G A nL cc Ts own ret) {i : Nat} {x : Nat} (j : Nat) (hdg : decode cc pc = .ok (.aload i, 2)) (hj : lv[j]? = some (i, .ref x)) (k : Sm p l e R s m args below meth c G A nL cells slots Q (pc + 2) lv (.ref x :: st) w) : Sm p l e R s m args below meth c G A nL cells slots Q pc lv (st) w := fun H locs ls hP hD hS hl => lv_aload X.hx X.hb hdg (lv_at hl j hj) (k H locs ls hP hD hS hl)
theorem s_istore_n (X : Cx p R s m args meth c G A nL cc Ts own ret) {k0 : Fin 4} {i : Nat} {x : Int32} {lv2 : LV} (hdg : decode cc pc = .ok (.istore_n k0, 1)) (hi : (k0 : Nat) = i) (hn : i < nL) (hl2 : (i, Value.int x) :: lv.filter (fun q => !(q.1 == i) && !(q.1 + 1 == i && q.2.category == 2)) = lv2) (k : Sm p l e R s m args below meth c G A nL cells slots Q (pc + 1) lv2 st w) : Sm p l e R s m args below meth c G A nL cells slots Q pc lv (.int x :: st) w := fun H locs ls hP hD hS hl => lv_istore_n X.hx X.hb hdg hi hl hn hl2 (fun ls2 hl3 => k H locs ls2 hP hD hS hl3)
theorem s_istore (X : Cx p R s m args meth c G A nL cc Ts own ret) {i : Nat} {x : Int32} {lv2 : LV} (hdg : decode cc pc = .ok (.istore i, 2)) (hn : i < nL) (hl2 : (i, Value.int x) :: lv.filter (fun q => !(q.1 == i) && !(q.1 + 1 == i && q.2.category == 2)) = lv2) (k : Sm p l e R s m args below meth c G A nL cells slots Q (pc + 2) lv2 st w) : Sm p l e R s m args below meth c G A nL cells slots Q pc lv (.int x :: st) w := fun H locs ls hP hD hS hl => lv_istore X.hx X.hb hdg hl hn hl2 (fun ls2 hl3 => k H locs ls2 hP hD hS hl3)
theorem s_astore_n (X : Cx p R s m args meth c G A nL cc Ts own ret) {k0 : Fin 4} {i : Nat} {x : Nat} {lv2 : LV} (hdg : decode cc pc = .ok (.astore_n k0, 1)) (hi : (k0 : Nat) = i) (hn : i < nL) (hl2 : (i, Value.ref x) :: lv.filter (fun q => !(q.1 == i) && !(q.1 + 1 == i && q.2.category == 2)) = lv2) (k : Sm p l e R s m args below meth c G A nL cells slots Q (pc + 1) lv2 st w) : Sm p l e R s m args below meth c G A nL cells slots Q pc lv (.ref x :: st) w := fun H locs ls hP hD hS hl => lv_astore_n X.hx X.hb hdg hi hl hn hl2 (fun ls2 hl3 => k H locs ls2 hP hD hS hl3)
theorem s_astore (X : Cx p R s m args meth c G A nL cc Ts own ret) {i : Nat} {x : Nat} {lv2 : LV} (hdg : decode cc pc = .ok (.astore i, 2)) (hn : i < nL) (hl2 : (i, Value.ref x) :: lv.filter (fun q => !(q.1 == i) && !(q.1 + 1 == i && q.2.category == 2)) = lv2) (k : Sm p l e R s m args below meth c G A nL cells slots Q (pc + 2) lv2 st w) : Sm p l e R s m args below meth c G A nL cells slots Q pc lv (.ref x :: st) w := fun H locs ls hP hD hS hl => lv_astore X.hx X.hb hdg hl hn hl2 (fun ls2 hl3 => k H locs ls2 hP hD hS hl3)
theorem s_lstore (X : Cx p R s m args meth c G A nL cc Ts own ret) {i : Nat} {x : Int64} {lv2 : LV} (hdg : decode cc pc = .ok (.lstore i, 2)) (hn : i + 1 < nL) (hl2 : (i, Value.long x) :: lv.filter (fun q => !(q.1 == i) && (!(q.1 == i + 1) && !(q.1 + 1 == i && q.2.category == 2))) = lv2) (k : Sm p l e R s m args below meth c G A nL cells slots Q (pc + 2) lv2 st w) : Sm p l e R s m args below meth c G A nL cells slots Q pc lv (.long x :: st) w := fun H locs ls hP hD hS hl => lv_lstore X.hx X.hb hdg hl hn hl2 (fun ls2 hl3 => k H locs ls2 hP hD hS hl3)
theorem s_lstore_n (X : Cx p R s m args meth c G A nL cc Ts own ret) {k0 : Fin 4} {i : Nat} {x : Int64} {lv2 : LV} (hdg : decode cc pc = .ok (.lstore_n k0, 1)) (hi : (k0 : Nat) = i) (hn : i + 1 < nL) (hl2 : (i, Value.long x) :: lv.filter (fun q => !(q.1 == i) && (!(q.1 == i + 1) && !(q.1 + 1 == i && q.2.category == 2))) = lv2) (k : Sm p l e R s m args below meth c G A nL cells slots Q (pc + 1) lv2 st w) : Sm p l e R s m args below meth c G A nL cells slots Q pc lv (.long x :: st) w := fun H locs ls hP hD hS hl => lv_lstore_n X.hx X.hb hdg hi hl hn hl2 (fun ls2 hl3 => k H locs ls2 hP hD hS hl3)
theorem s_iinc (X : Cx p R s m args meth c G A nL cc Ts own ret) {i : Nat} {n : Int} {x v : Int32} {lv2 : LV} (j : Nat) (hdg : decode cc pc = .ok (.iinc i n, 3)) (hj : lv[j]? = some (i, .int x)) (hv : x + Int32.ofInt n = v) (hn : i < nL) (hl2 : (i, Value.int v) :: lv.filter (fun q => !(q.1 == i) && !(q.1 + 1 == i && q.2.category == 2)) = lv2) (k : Sm p l e R s m args below meth c G A nL cells slots Q (pc + 3) lv2 st w) : Sm p l e R s m args below meth c G A nL cells slots Q pc lv st w := fun H locs ls hP hD hS hl => lv_iinc X.hx X.hb hdg hl hj hv hn hl2 (fun ls2 hl3 => k H locs ls2 hP hD hS hl3)
theorem s_cast {lv2 : LV} {w2 : va_W} (h1 : lv = lv2) (h2 : w = w2) (k : Sm p l e R s m args below meth c G A nL cells slots Q pc lv2 st w2) : Sm p l e R s m args below meth c G A nL cells slots Q pc lv st w := by subst h1; subst h2; exact k
theorem s_topeq {x y : Int32} (h : x = y) (k : Sm p l e R s m args below meth c G A nL cells slots Q pc lv (.int y :: st) w) : Sm p l e R s m args below meth c G A nL cells slots Q pc lv (.int x :: st) w := h ▸ k
theorem s_perm (ks : List Nat) {lv2 : LV} (h : lv_pick lv ks = lv2) (k : Sm p l e R s m args below meth c G A nL cells slots Q pc lv2 st w) : Sm p l e R s m args below meth c G A nL cells slots Q pc lv st w := fun H locs ls hP hD hS hl => k H locs ls hP hD hS (lv_sub hl ks h)
theorem s_iadd (X : Cx p R s m args meth c G A nL cc Ts own ret) {x y : Int32} (hdg : decode cc pc = .ok (.iadd, 1)) (k : Sm p l e R s m args below meth c G A nL cells slots Q (pc + 1) lv (.int (x + y) :: st) w) : Sm p l e R s m args below meth c G A nL cells slots Q pc lv (.int y :: .int x :: st) w := fun H locs ls hP hD hS hl => lv_iadd X.hx X.hb hdg (k H locs ls hP hD hS hl)
theorem s_isub (X : Cx p R s m args meth c G A nL cc Ts own ret) {x y : Int32} (hdg : decode cc pc = .ok (.isub, 1)) (k : Sm p l e R s m args below meth c G A nL cells slots Q (pc + 1) lv (.int (x - y) :: st) w) : Sm p l e R s m args below meth c G A nL cells slots Q pc lv (.int y :: .int x :: st) w := fun H locs ls hP hD hS hl => lv_isub X.hx X.hb hdg (k H locs ls hP hD hS hl)
theorem s_imul (X : Cx p R s m args meth c G A nL cc Ts own ret) {x y : Int32} (hdg : decode cc pc = .ok (.imul, 1)) (k : Sm p l e R s m args below meth c G A nL cells slots Q (pc + 1) lv (.int (x * y) :: st) w) : Sm p l e R s m args below meth c G A nL cells slots Q pc lv (.int y :: .int x :: st) w := fun H locs ls hP hD hS hl => lv_imul X.hx X.hb hdg (k H locs ls hP hD hS hl)
theorem s_iand (X : Cx p R s m args meth c G A nL cc Ts own ret) {x y : Int32} (hdg : decode cc pc = .ok (.iand, 1)) (k : Sm p l e R s m args below meth c G A nL cells slots Q (pc + 1) lv (.int (x &&& y) :: st) w) : Sm p l e R s m args below meth c G A nL cells slots Q pc lv (.int y :: .int x :: st) w := fun H locs ls hP hD hS hl => lv_iand X.hx X.hb hdg (k H locs ls hP hD hS hl)
theorem s_ior (X : Cx p R s m args meth c G A nL cc Ts own ret) {x y : Int32} (hdg : decode cc pc = .ok (.ior, 1)) (k : Sm p l e R s m args below meth c G A nL cells slots Q (pc + 1) lv (.int (x ||| y) :: st) w) : Sm p l e R s m args below meth c G A nL cells slots Q pc lv (.int y :: .int x :: st) w := fun H locs ls hP hD hS hl => lv_ior X.hx X.hb hdg (k H locs ls hP hD hS hl)
theorem s_ixor (X : Cx p R s m args meth c G A nL cc Ts own ret) {x y : Int32} (hdg : decode cc pc = .ok (.ixor, 1)) (k : Sm p l e R s m args below meth c G A nL cells slots Q (pc + 1) lv (.int (x ^^^ y) :: st) w) : Sm p l e R s m args below meth c G A nL cells slots Q pc lv (.int y :: .int x :: st) w := fun H locs ls hP hD hS hl => lv_ixor X.hx X.hb hdg (k H locs ls hP hD hS hl)
theorem s_ishl (X : Cx p R s m args meth c G A nL cc Ts own ret) {x y : Int32} (hdg : decode cc pc = .ok (.ishl, 1)) (k : Sm p l e R s m args below meth c G A nL cells slots Q (pc + 1) lv (.int (x <<< (y &&& 31)) :: st) w) : Sm p l e R s m args below meth c G A nL cells slots Q pc lv (.int y :: .int x :: st) w := fun H locs ls hP hD hS hl => lv_ishl X.hx X.hb hdg (k H locs ls hP hD hS hl)
theorem s_ishr (X : Cx p R s m args meth c G A nL cc Ts own ret) {x y : Int32} (hdg : decode cc pc = .ok (.ishr, 1)) (k : Sm p l e R s m args below meth c G A nL cells slots Q (pc + 1) lv (.int (x >>> (y &&& 31)) :: st) w) : Sm p l e R s m args below meth c G A nL cells slots Q pc lv (.int y :: .int x :: st) w := fun H locs ls hP hD hS hl => lv_ishr X.hx X.hb hdg (k H locs ls hP hD hS hl)
theorem s_iushr (X : Cx p R s m args meth c G A nL cc Ts own ret) {x y v : Int32} (hdg : decode cc pc = .ok (.iushr, 1)) (hv : (x.toUInt32 >>> (y.toUInt32 &&& Int32.toUInt32 31)).toInt32 = v) (k : Sm p l e R s m args below meth c G A nL cells slots Q (pc + 1) lv (.int v :: st) w) : Sm p l e R s m args below meth c G A nL cells slots Q pc lv (.int y :: .int x :: st) w := fun H locs ls hP hD hS hl => lv_iushr X.hx X.hb hdg hv (k H locs ls hP hD hS hl)
theorem s_idiv (X : Cx p R s m args meth c G A nL cc Ts own ret) {x y : Int32} (hdg : decode cc pc = .ok (.idiv, 1)) (hne : ¬ y = 0) (k : Sm p l e R s m args below meth c G A nL cells slots Q (pc + 1) lv (.int (x / y) :: st) w) : Sm p l e R s m args below meth c G A nL cells slots Q pc lv (.int y :: .int x :: st) w := fun H locs ls hP hD hS hl => lv_idiv X.hx X.hb hdg hne (k H locs ls hP hD hS hl)
theorem s_irem (X : Cx p R s m args meth c G A nL cc Ts own ret) {x y : Int32} (hdg : decode cc pc = .ok (.irem, 1)) (hne : ¬ y = 0) (k : Sm p l e R s m args below meth c G A nL cells slots Q (pc + 1) lv (.int (x - x / y * y) :: st) w) : Sm p l e R s m args below meth c G A nL cells slots Q pc lv (.int y :: .int x :: st) w := fun H locs ls hP hD hS hl => lv_irem X.hx X.hb hdg hne (k H locs ls hP hD hS hl)
theorem s_ladd (X : Cx p R s m args meth c G A nL cc Ts own ret) {x y : Int64} (hdg : decode cc pc = .ok (.ladd, 1)) (k : Sm p l e R s m args below meth c G A nL cells slots Q (pc + 1) lv (.long (x + y) :: st) w) : Sm p l e R s m args below meth c G A nL cells slots Q pc lv (.long y :: .long x :: st) w := fun H locs ls hP hD hS hl => lv_ladd X.hx X.hb hdg (k H locs ls hP hD hS hl)
theorem s_lsub (X : Cx p R s m args meth c G A nL cc Ts own ret) {x y : Int64} (hdg : decode cc pc = .ok (.lsub, 1)) (k : Sm p l e R s m args below meth c G A nL cells slots Q (pc + 1) lv (.long (x - y) :: st) w) : Sm p l e R s m args below meth c G A nL cells slots Q pc lv (.long y :: .long x :: st) w := fun H locs ls hP hD hS hl => lv_lsub X.hx X.hb hdg (k H locs ls hP hD hS hl)
theorem s_lmul (X : Cx p R s m args meth c G A nL cc Ts own ret) {x y : Int64} (hdg : decode cc pc = .ok (.lmul, 1)) (k : Sm p l e R s m args below meth c G A nL cells slots Q (pc + 1) lv (.long (x * y) :: st) w) : Sm p l e R s m args below meth c G A nL cells slots Q pc lv (.long y :: .long x :: st) w := fun H locs ls hP hD hS hl => lv_lmul X.hx X.hb hdg (k H locs ls hP hD hS hl)
theorem s_ldiv (X : Cx p R s m args meth c G A nL cc Ts own ret) {x y : Int64} (hdg : decode cc pc = .ok (.ldiv, 1)) (hne : ¬ y = 0) (k : Sm p l e R s m args below meth c G A nL cells slots Q (pc + 1) lv (.long (x / y) :: st) w) : Sm p l e R s m args below meth c G A nL cells slots Q pc lv (.long y :: .long x :: st) w := fun H locs ls hP hD hS hl => lv_ldiv X.hx X.hb hdg hne (k H locs ls hP hD hS hl)
theorem s_lrem (X : Cx p R s m args meth c G A nL cc Ts own ret) {x y : Int64} (hdg : decode cc pc = .ok (.lrem, 1)) (hne : ¬ y = 0) (k : Sm p l e R s m args below meth c G A nL cells slots Q (pc + 1) lv (.long (x - x / y * y) :: st) w) : Sm p l e R s m args below meth c G A nL cells slots Q pc lv (.long y :: .long x :: st) w := fun H locs ls hP hD hS hl => lv_lrem X.hx X.hb hdg hne (k H locs ls hP hD hS hl)
theorem s_i2l (X : Cx p R s m args meth c G A nL cc Ts own ret) {x : Int32} (hdg : decode cc pc = .ok (.i2l, 1)) (k : Sm p l e R s m args below meth c G A nL cells slots Q (pc + 1) lv (.long x.toInt64 :: st) w) : Sm p l e R s m args below meth c G A nL cells slots Q pc lv (.int x :: st) w := fun H locs ls hP hD hS hl => lv_i2l X.hx X.hb hdg rfl (k H locs ls hP hD hS hl)
theorem s_l2i (X : Cx p R s m args meth c G A nL cc Ts own ret) {x : Int64} (hdg : decode cc pc = .ok (.l2i, 1)) (k : Sm p l e R s m args below meth c G A nL cells slots Q (pc + 1) lv (.int x.toInt32 :: st) w) : Sm p l e R s m args below meth c G A nL cells slots Q pc lv (.long x :: st) w := fun H locs ls hP hD hS hl => lv_l2i X.hx X.hb hdg rfl (k H locs ls hP hD hS hl)
theorem s_lcmp (X : Cx p R s m args meth c G A nL cc Ts own ret) {x y : Int64} (hdg : decode cc pc = .ok (.lcmp, 1)) (k : Sm p l e R s m args below meth c G A nL cells slots Q (pc + 1) lv (.int (lg_cmp x y) :: st) w) : Sm p l e R s m args below meth c G A nL cells slots Q pc lv (.long y :: .long x :: st) w := fun H locs ls hP hD hS hl => W.lcmp X.hx X.hb hdg (k H locs ls hP hD hS hl)
theorem s_dup (X : Cx p R s m args meth c G A nL cc Ts own ret) {va : Value} (hdg : decode cc pc = .ok (.dup, 1)) (hva : va.category = 1) (k : Sm p l e R s m args below meth c G A nL cells slots Q (pc + 1) lv (va :: va :: st) w) : Sm p l e R s m args below meth c G A nL cells slots Q pc lv (va :: st) w := fun H locs ls hP hD hS hl => lv_dup X.hx X.hb hdg hva (k H locs ls hP hD hS hl)
theorem s_dup2 (X : Cx p R s m args meth c G A nL cc Ts own ret) {va vb : Value} (hdg : decode cc pc = .ok (.dup2, 1)) (hva : va.category = 1) (hvb : vb.category = 1) (k : Sm p l e R s m args below meth c G A nL cells slots Q (pc + 1) lv (va :: vb :: va :: vb :: st) w) : Sm p l e R s m args below meth c G A nL cells slots Q pc lv (va :: vb :: st) w := fun H locs ls hP hD hS hl => lv_dup2_11 X.hx X.hb hdg hva hvb (k H locs ls hP hD hS hl)
theorem s_pop (X : Cx p R s m args meth c G A nL cc Ts own ret) {va : Value} (hdg : decode cc pc = .ok (.pop, 1)) (hva : va.category = 1) (k : Sm p l e R s m args below meth c G A nL cells slots Q (pc + 1) lv (st) w) : Sm p l e R s m args below meth c G A nL cells slots Q pc lv (va :: st) w := fun H locs ls hP hD hS hl => lv_pop X.hx X.hb hdg hva (k H locs ls hP hD hS hl)
theorem s_if_eq (X : Cx p R s m args meth c G A nL cc Ts own ret) {x : Int32} {off : Int} {tgt : Nat} (hdg : decode cc pc = .ok (.ifCond .eq off, 3)) (ht : (pc : Int) + off = (tgt : Int)) (kt : x = 0 → Sm p l e R s m args below meth c G A nL cells slots Q tgt lv st w) (kf : ¬ x = 0 → Sm p l e R s m args below meth c G A nL cells slots Q (pc + 3) lv st w) : Sm p l e R s m args below meth c G A nL cells slots Q pc lv (.int x :: st) w := fun H locs ls hP hD hS hl => lv_if_eq X.hx X.hb hdg ht (fun h => kt h H locs ls hP hD hS hl) (fun h => kf h H locs ls hP hD hS hl)
theorem s_icmp_eq (X : Cx p R s m args meth c G A nL cc Ts own ret) {x y : Int32} {off : Int} {tgt : Nat} (hdg : decode cc pc = .ok (.if_icmp .eq off, 3)) (ht : (pc : Int) + off = (tgt : Int)) (kt : x = y → Sm p l e R s m args below meth c G A nL cells slots Q tgt lv st w) (kf : ¬ x = y → Sm p l e R s m args below meth c G A nL cells slots Q (pc + 3) lv st w) : Sm p l e R s m args below meth c G A nL cells slots Q pc lv (.int y :: .int x :: st) w := fun H locs ls hP hD hS hl => lv_icmp_eq X.hx X.hb hdg ht (fun h => kt h H locs ls hP hD hS hl) (fun h => kf h H locs ls hP hD hS hl)
theorem s_if_lt (X : Cx p R s m args meth c G A nL cc Ts own ret) {x : Int32} {off : Int} {tgt : Nat} (hdg : decode cc pc = .ok (.ifCond .lt off, 3)) (ht : (pc : Int) + off = (tgt : Int)) (kt : x < 0 → Sm p l e R s m args below meth c G A nL cells slots Q tgt lv st w) (kf : ¬ x < 0 → Sm p l e R s m args below meth c G A nL cells slots Q (pc + 3) lv st w) : Sm p l e R s m args below meth c G A nL cells slots Q pc lv (.int x :: st) w := fun H locs ls hP hD hS hl => lv_if_lt X.hx X.hb hdg ht (fun h => kt h H locs ls hP hD hS hl) (fun h => kf h H locs ls hP hD hS hl)
theorem s_icmp_lt (X : Cx p R s m args meth c G A nL cc Ts own ret) {x y : Int32} {off : Int} {tgt : Nat} (hdg : decode cc pc = .ok (.if_icmp .lt off, 3)) (ht : (pc : Int) + off = (tgt : Int)) (kt : x < y → Sm p l e R s m args below meth c G A nL cells slots Q tgt lv st w) (kf : ¬ x < y → Sm p l e R s m args below meth c G A nL cells slots Q (pc + 3) lv st w) : Sm p l e R s m args below meth c G A nL cells slots Q pc lv (.int y :: .int x :: st) w := fun H locs ls hP hD hS hl => lv_icmp_lt X.hx X.hb hdg ht (fun h => kt h H locs ls hP hD hS hl) (fun h => kf h H locs ls hP hD hS hl)
theorem s_if_ge (X : Cx p R s m args meth c G A nL cc Ts own ret) {x : Int32} {off : Int} {tgt : Nat} (hdg : decode cc pc = .ok (.ifCond .ge off, 3)) (ht : (pc : Int) + off = (tgt : Int)) (kt : 0 ≤ x → Sm p l e R s m args below meth c G A nL cells slots Q tgt lv st w) (kf : ¬ 0 ≤ x → Sm p l e R s m args below meth c G A nL cells slots Q (pc + 3) lv st w) : Sm p l e R s m args below meth c G A nL cells slots Q pc lv (.int x :: st) w := fun H locs ls hP hD hS hl => lv_if_ge X.hx X.hb hdg ht (fun h => kt h H locs ls hP hD hS hl) (fun h => kf h H locs ls hP hD hS hl)
theorem s_icmp_ge (X : Cx p R s m args meth c G A nL cc Ts own ret) {x y : Int32} {off : Int} {tgt : Nat} (hdg : decode cc pc = .ok (.if_icmp .ge off, 3)) (ht : (pc : Int) + off = (tgt : Int)) (kt : y ≤ x → Sm p l e R s m args below meth c G A nL cells slots Q tgt lv st w) (kf : ¬ y ≤ x → Sm p l e R s m args below meth c G A nL cells slots Q (pc + 3) lv st w) : Sm p l e R s m args below meth c G A nL cells slots Q pc lv (.int y :: .int x :: st) w := fun H locs ls hP hD hS hl => lv_icmp_ge X.hx X.hb hdg ht (fun h => kt h H locs ls hP hD hS hl) (fun h => kf h H locs ls hP hD hS hl)
theorem s_if_gt (X : Cx p R s m args meth c G A nL cc Ts own ret) {x : Int32} {off : Int} {tgt : Nat} (hdg : decode cc pc = .ok (.ifCond .gt off, 3)) (ht : (pc : Int) + off = (tgt : Int)) (kt : 0 < x → Sm p l e R s m args below meth c G A nL cells slots Q tgt lv st w) (kf : ¬ 0 < x → Sm p l e R s m args below meth c G A nL cells slots Q (pc + 3) lv st w) : Sm p l e R s m args below meth c G A nL cells slots Q pc lv (.int x :: st) w := fun H locs ls hP hD hS hl => lv_if_gt X.hx X.hb hdg ht (fun h => kt h H locs ls hP hD hS hl) (fun h => kf h H locs ls hP hD hS hl)
theorem s_icmp_gt (X : Cx p R s m args meth c G A nL cc Ts own ret) {x y : Int32} {off : Int} {tgt : Nat} (hdg : decode cc pc = .ok (.if_icmp .gt off, 3)) (ht : (pc : Int) + off = (tgt : Int)) (kt : y < x → Sm p l e R s m args below meth c G A nL cells slots Q tgt lv st w) (kf : ¬ y < x → Sm p l e R s m args below meth c G A nL cells slots Q (pc + 3) lv st w) : Sm p l e R s m args below meth c G A nL cells slots Q pc lv (.int y :: .int x :: st) w := fun H locs ls hP hD hS hl => lv_icmp_gt X.hx X.hb hdg ht (fun h => kt h H locs ls hP hD hS hl) (fun h => kf h H locs ls hP hD hS hl)
theorem s_if_le (X : Cx p R s m args meth c G A nL cc Ts own ret) {x : Int32} {off : Int} {tgt : Nat} (hdg : decode cc pc = .ok (.ifCond .le off, 3)) (ht : (pc : Int) + off = (tgt : Int)) (kt : x ≤ 0 → Sm p l e R s m args below meth c G A nL cells slots Q tgt lv st w) (kf : ¬ x ≤ 0 → Sm p l e R s m args below meth c G A nL cells slots Q (pc + 3) lv st w) : Sm p l e R s m args below meth c G A nL cells slots Q pc lv (.int x :: st) w := fun H locs ls hP hD hS hl => lv_if_le X.hx X.hb hdg ht (fun h => kt h H locs ls hP hD hS hl) (fun h => kf h H locs ls hP hD hS hl)
theorem s_icmp_le (X : Cx p R s m args meth c G A nL cc Ts own ret) {x y : Int32} {off : Int} {tgt : Nat} (hdg : decode cc pc = .ok (.if_icmp .le off, 3)) (ht : (pc : Int) + off = (tgt : Int)) (kt : x ≤ y → Sm p l e R s m args below meth c G A nL cells slots Q tgt lv st w) (kf : ¬ x ≤ y → Sm p l e R s m args below meth c G A nL cells slots Q (pc + 3) lv st w) : Sm p l e R s m args below meth c G A nL cells slots Q pc lv (.int y :: .int x :: st) w := fun H locs ls hP hD hS hl => lv_icmp_le X.hx X.hb hdg ht (fun h => kt h H locs ls hP hD hS hl) (fun h => kf h H locs ls hP hD hS hl)
theorem s_if_ne (X : Cx p R s m args meth c G A nL cc Ts own ret) {x : Int32} {off : Int} {tgt : Nat} (hdg : decode cc pc = .ok (.ifCond .ne off, 3)) (ht : (pc : Int) + off = (tgt : Int)) (kt : ¬ x = 0 → Sm p l e R s m args below meth c G A nL cells slots Q tgt lv st w) (kf : x = 0 → Sm p l e R s m args below meth c G A nL cells slots Q (pc + 3) lv st w) : Sm p l e R s m args below meth c G A nL cells slots Q pc lv (.int x :: st) w := fun H locs ls hP hD hS hl => lv_if_ne X.hx X.hb hdg ht (fun h => kt h H locs ls hP hD hS hl) (fun h => kf h H locs ls hP hD hS hl)
theorem s_icmp_ne (X : Cx p R s m args meth c G A nL cc Ts own ret) {x y : Int32} {off : Int} {tgt : Nat} (hdg : decode cc pc = .ok (.if_icmp .ne off, 3)) (ht : (pc : Int) + off = (tgt : Int)) (kt : ¬ x = y → Sm p l e R s m args below meth c G A nL cells slots Q tgt lv st w) (kf : x = y → Sm p l e R s m args below meth c G A nL cells slots Q (pc + 3) lv st w) : Sm p l e R s m args below meth c G A nL cells slots Q pc lv (.int y :: .int x :: st) w := fun H locs ls hP hD hS hl => lv_icmp_ne X.hx X.hb hdg ht (fun h => kt h H locs ls hP hD hS hl) (fun h => kf h H locs ls hP hD hS hl)
theorem s_goto (X : Cx p R s m args meth c G A nL cc Ts own ret) {off : Int} {tgt : Nat} (hdg : decode cc pc = .ok (.goto off, 3)) (ht : (pc : Int) + off = (tgt : Int)) (k : Sm p l e R s m args below meth c G A nL cells slots Q tgt lv st w) : Sm p l e R s m args below meth c G A nL cells slots Q pc lv st w := fun H locs ls hP hD hS hl => lv_goto X.hx X.hb hdg ht (k H locs ls hP hD hS hl)
theorem s_tableOut (X : Cx p R s m args meth c G A nL cc Ts own ret) {dflt lo hi : Int} {offs : Array Int} {len : Nat} {x : Int32} {tgt : Nat} (hdg : decode cc pc = .ok (.tableswitch dflt lo hi offs, len)) (h : x.toInt < lo ∨ hi < x.toInt) (ht : (pc : Int) + dflt = (tgt : Int)) (k : Sm p l e R s m args below meth c G A nL cells slots Q tgt lv st w) : Sm p l e R s m args below meth c G A nL cells slots Q pc lv (.int x :: st) w := fun H locs ls hP hD hS hl => lv_tableOut X.hx X.hb hdg h ht (k H locs ls hP hD hS hl)
theorem s_tableIn (X : Cx p R s m args meth c G A nL cc Ts own ret) {dflt lo hi : Int} {offs : Array Int} {len : Nat} {x : Int32} {off : Int} {tgt : Nat} (hdg : decode cc pc = .ok (.tableswitch dflt lo hi offs, len)) (h1 : ¬ x.toInt < lo) (h2 : ¬ hi < x.toInt) (ho : offs[(x.toInt - lo).toNat]? = some off) (ht : (pc : Int) + off = (tgt : Int)) (k : Sm p l e R s m args below meth c G A nL cells slots Q tgt lv st w) : Sm p l e R s m args below meth c G A nL cells slots Q pc lv (.int x :: st) w := fun H locs ls hP hD hS hl => lv_tableIn X.hx X.hb hdg h1 h2 ho ht (k H locs ls hP hD hS hl)
theorem s_get (X : Cx p R s m args meth c G A nL cc Ts own ret) {ref C : String} {T : u_T} {N ci index : Nat} {a : Nat} {fs : List Value} (hin : ∀ z ∈ u_ws C T N, z ∈ Ts) (q0 : Nat) (he : w[q0]? = some (a, .inr (ci, fs))) (hc : vwCl[ci]? = some (C, T, N)) (kf : Nat) (hk : kf < N) (hlink : Cond.fieldLink own index ref (T kf).2.1 (T kf).2.2.1 ∈ Ts) (hrf : (T kf).1 = ref) {v : Value} (hv : fs[kf]? = some v) (hdg : decode cc pc = .ok (.getfield index, 3)) (k : Sm p l e R s m args below meth c G A nL cells slots Q (pc + 3) lv (v :: st) w) : Sm p l e R s m args below meth c G A nL cells slots Q pc lv (.ref a :: st) w := fun H locs ls hP hD hS hl => va_get X.hx X.hb X.hts hin X.hown X.hK hP q0 he hc kf hk (X.hts _ hlink) (fun _ h9 => by rw [← hrf]; exact h9) hv hdg (k H locs ls hP hD hS hl)
theorem s_put (X : Cx p R s m args meth c G A nL cc Ts own ret) {ref C : String} {T : u_T} {N ci index : Nat} {a : Nat} {fs : List Value} (hin : ∀ z ∈ u_ws C T N, z ∈ Ts) (q0 : Nat) (he : w[q0]? = some (a, .inr (ci, fs))) (hc : vwCl[ci]? = some (C, T, N)) (kf : Nat) (hk : kf < N) (hlink : Cond.fieldLink own index ref (T kf).2.1 (T kf).2.2.1 ∈ Ts) (hrf : (T kf).1 = ref) (ty0 : Nat → FieldType) (hty : ∀ k, k < N → parseFieldDescriptor (T k).2.2.1 = some (ty0 k)) (hnm : ∀ a, a < N → ∀ b, b < N → a ≠ b → (T a).2.1 ≠ (T b).2.1) (hfin : (T kf).2.2.2 = false) {ty : FieldType} {v : Value} (hd : parseFieldDescriptor (T kf).2.2.1 = some ty) (hn : narrow ty v = v) (hfit : fits ty v = true) (hll : kf < fs.length) {w2 : va_W} (hw2 : w.set q0 (a, .inr (ci, fs.set kf v)) = w2) (hdg : decode cc pc = .ok (.putfield index, 3)) (k : Sm p l e R s m args below meth c G A nL cells slots Q (pc + 3) lv st w2) : Sm p l e R s m args below meth c G A nL cells slots Q pc lv (v :: .ref a :: st) w := fun H locs ls hP hD hS hl => va_put X.hx X.hb X.hts hin ty0 hty hnm X.hown X.hK hP hD hS q0 he hc kf hk (X.hts _ hlink) (fun _ h9 => by rw [← hrf]; exact h9) hfin hd hn hfit hll hdg (fun H1 locs1 hP1 hD1 hS1 => k H1 locs1 ls (hw2 ▸ hP1) (hw2 ▸ hD1) hS1 hl)
theorem s_putF (X : Cx p R s m args meth c G A nL cc Ts own ret) {ref C : String} {T : u_T} {N ci index : Nat} {a : Nat} {fs : List Value} (hin : ∀ z ∈ u_ws C T N, z ∈ Ts) (q0 : Nat) (he : w[q0]? = some (a, .inr (ci, fs))) (hc : vwCl[ci]? = some (C, T, N)) (kf : Nat) (hk : kf < N) (hlink : Cond.fieldLink own index ref (T kf).2.1 (T kf).2.2.1 ∈ Ts) (hrf : (T kf).1 = ref) (hmn : meth.name = "<init>") (ty0 : Nat → FieldType) (hty : ∀ k, k < N → parseFieldDescriptor (T k).2.2.1 = some (ty0 k)) (hnm : ∀ a, a < N → ∀ b, b < N → a ≠ b → (T a).2.1 ≠ (T b).2.1) (hfin : (T kf).2.2.2 = true) (hdecl : (T kf).1 = own) {ty : FieldType} {v : Value} (hd : parseFieldDescriptor (T kf).2.2.1 = some ty) (hn : narrow ty v = v) (hfit : fits ty v = true) (hll : kf < fs.length) {w2 : va_W} (hw2 : w.set q0 (a, .inr (ci, fs.set kf v)) = w2) (hdg : decode cc pc = .ok (.putfield index, 3)) (k : Sm p l e R s m args below meth c G A nL cells slots Q (pc + 3) lv st w2) : Sm p l e R s m args below meth c G A nL cells slots Q pc lv (v :: .ref a :: st) w := fun H locs ls hP hD hS hl => va_putF X.hx X.hb X.hts hin ty0 hty hnm X.hown X.hK hP hD hS q0 he hc kf hk (X.hts _ hlink) (fun _ h9 => by rw [← hrf]; exact h9) hfin hmn hdecl hd hn hfit hll hdg (fun H1 locs1 hP1 hD1 hS1 => k H1 locs1 ls (hw2 ▸ hP1) (hw2 ▸ hD1) hS1 hl)
theorem s_iald (X : Cx p R s m args meth c G A nL cc Ts own ret) {a n : Nat} {f : Nat → Int32} (q0 : Nat) (ha : w[q0]? = some (a, .inl (G.2.1, n, .inl f))) {i : Int32} (hi : vp_in i n) (hdg : decode cc pc = .ok (.iaload, 1)) (k : Sm p l e R s m args below meth c G A nL cells slots Q (pc + 1) lv (.int (f i.toNatClampNeg) :: st) w) : Sm p l e R s m args below meth c G A nL cells slots Q pc lv (.int i :: .ref a :: st) w := fun H locs ls hP hD hS hl => va_iald X.hx X.hb X.hK hP q0 0 ha rfl hi hdg (k H locs ls hP hD hS hl)
theorem s_zald (X : Cx p R s m args meth c G A nL cc Ts own ret) {a n : Nat} {f : Nat → Int32} (q0 : Nat) (ha : w[q0]? = some (a, .inl (G.2.2, n, .inl f))) {i : Int32} (hi : vp_in i n) (hdg : decode cc pc = .ok (.baload, 1)) (k : Sm p l e R s m args below meth c G A nL cells slots Q (pc + 1) lv (.int (f i.toNatClampNeg) :: st) w) : Sm p l e R s m args below meth c G A nL cells slots Q pc lv (.int i :: .ref a :: st) w := fun H locs ls hP hD hS hl => va_zald X.hx X.hb X.hK hP q0 1 ha rfl hi hdg (k H locs ls hP hD hS hl)
theorem s_iast (X : Cx p R s m args meth c G A nL cc Ts own ret) {a n : Nat} {f : Nat → Int32} (q0 : Nat) (ha : w[q0]? = some (a, .inl (G.2.1, n, .inl f))) {i x : Int32} (hi : vp_in i n) {w2 : va_W} (hw2 : w.set q0 (a, .inl (G.2.1, n, .inl (upd f i.toNatClampNeg x))) = w2) (hdg : decode cc pc = .ok (.iastore, 1)) (k : Sm p l e R s m args below meth c G A nL cells slots Q (pc + 1) lv st w2) : Sm p l e R s m args below meth c G A nL cells slots Q pc lv (.int x :: .int i :: .ref a :: st) w := fun H locs ls hP hD hS hl => va_iast X.hx X.hb X.hK hP hD hS q0 0 ha rfl hi hdg (fun H1 locs1 hP1 hD1 hS1 => k H1 locs1 ls (hw2 ▸ hP1) (hw2 ▸ hD1) hS1 hl)
theorem s_zast (X : Cx p R s m args meth c G A nL cc Ts own ret) {a n : Nat} {f : Nat → Int32} (q0 : Nat) (ha : w[q0]? = some (a, .inl (G.2.2, n, .inl f))) {i x : Int32} (hi : vp_in i n) (h01 : x = 0 ∨ x = 1) {w2 : va_W} (hw2 : w.set q0 (a, .inl (G.2.2, n, .inl (upd f i.toNatClampNeg x))) = w2) (hdg : decode cc pc = .ok (.bastore, 1)) (k : Sm p l e R s m args below meth c G A nL cells slots Q (pc + 1) lv st w2) : Sm p l e R s m args below meth c G A nL cells slots Q pc lv (.int x :: .int i :: .ref a :: st) w := fun H locs ls hP hD hS hl => va_zast X.hx X.hb X.hK hP hD hS q0 1 ha rfl hi hdg (fun H1 locs1 hP1 hD1 hS1 => k H1 locs1 ls (hw2 ▸ (vnar01 h01 ▸ hP1)) (hw2 ▸ (vnar01 h01 ▸ hD1)) hS1 hl)
theorem s_alen (X : Cx p R s m args meth c G A nL cc Ts own ret) {a n : Nat} {f : Nat → Int32} (q0 : Nat) (ha : w[q0]? = some (a, .inl (G.2.1, n, .inl f))) (hdg : decode cc pc = .ok (.arraylength, 1)) (k : Sm p l e R s m args below meth c G A nL cells slots Q (pc + 1) lv (.int (nI n) :: st) w) : Sm p l e R s m args below meth c G A nL cells slots Q pc lv (.ref a :: st) w := fun H locs ls hP hD hS hl => va_alen X.hx X.hb X.hK hP q0 0 ha (ty := .int) rfl rfl hdg (k H locs ls hP hD hS hl)
theorem s_copy (X : Cx p R s m args meth c G A nL cc Ts own ret) {index : Nat} (hlink : Cond.methodLink own index arraycopyName ∈ Ts) (hnat : Cond.native arraycopyName ∈ Ts) (hstat : Cond.static arraycopyName ∈ Ts) (hini : Cond.initialized "java/lang/System" ∈ Ts) (q0 q1 : Nat) {a0 a n0 n1 : Nat} {f g : Nat → Int32} (ha0 : w[q0]? = some (a0, .inl (G.2.1, n0, .inl f))) (ha1 : w[q1]? = some (a, .inl (G.2.1, n1, .inl g))) {sp dp n : Int32} (h1 : ¬ sp < 0) (h2 : ¬ dp < 0) (h3 : ¬ n < 0) (h4 : sp.toNatClampNeg + n.toNatClampNeg ≤ n0) (h5 : dp.toNatClampNeg + n.toNatClampNeg ≤ n1) (hfr : 1 ≤ R.frames) (hlo : (st.map fun v => v.category).sum + (nativeFrameWords "java/lang/System" "arraycopy" 5 + 11) ≤ R.locals) {w2 : va_W} (hw2 : w.set q1 (a, .inl (G.2.1, n1, .inl (va_cpy f g sp.toNatClampNeg dp.toNatClampNeg n.toNatClampNeg))) = w2) (hdg : decode cc pc = .ok (.invokestatic index, 3)) (k : Sm p l e R s m args below meth c G A nL cells slots Q (pc + 3) lv st w2) : Sm p l e R s m args below meth c G A nL cells slots Q pc lv (.int n :: .int dp :: .ref a :: .int sp :: .ref a0 :: st) w := fun H locs ls hP hD hS hl => va_copyi X.hx X.hb (X.hml.trans hl.1.symm) X.hown (X.hts _ hlink) (X.hts _ hnat) (X.hts _ hstat) (X.hts _ hini) X.hK hP hD hS q0 q1 0 0 ha0 ha1 rfl rfl rfl h1 h2 h3 h4 h5 (fun _ _ => rfl) hfr hlo hdg (fun H1 locs1 hP1 hD1 hS1 => k H1 locs1 ls (hw2 ▸ hP1) (hw2 ▸ hD1) hS1 hl)
theorem s_max (X : Cx p R s m args meth c G A nL cc Ts own ret) {index : Nat} (hlink : Cond.methodLink own index Lib.Math.max.name ∈ Ts) (hstat : Cond.static Lib.Math.max.name ∈ Ts) (hini : Cond.initialized "java/lang/Math" ∈ Ts) (hcode : Cond.code Lib.Math.max.name Lib.Math.max.code 2 (some .int) ∈ Ts) (hfr : 1 ≤ R.frames) (hlo : (st.map fun v => v.category).sum + 13 ≤ R.locals) (hcl : cells ≤ R.cells) (hsl : slots ≤ R.slots) {x y : Int32} (hdg : decode cc pc = .ok (.invokestatic index, 3)) (k : Sm p l e R s m args below meth c G A nL cells slots Q (pc + 3) lv (.int (if x < y then y else x) :: st) w) : Sm p l e R s m args below meth c G A nL cells slots Q pc lv (.int y :: .int x :: st) w := fun H locs ls hP hD hS hl => va_mmax X.hx X.hb (X.hml.trans hl.1.symm) X.hown (X.hts _ hlink) (X.hts _ hstat) (X.hts _ hini) (X.hts _ hcode) hfr hlo hcl hsl hdg (k H locs ls hP hD hS hl)
theorem s_min (X : Cx p R s m args meth c G A nL cc Ts own ret) {index : Nat} (hlink : Cond.methodLink own index Lib.Math.min.name ∈ Ts) (hstat : Cond.static Lib.Math.min.name ∈ Ts) (hini : Cond.initialized "java/lang/Math" ∈ Ts) (hcode : Cond.code Lib.Math.min.name Lib.Math.min.code 2 (some .int) ∈ Ts) (hfr : 1 ≤ R.frames) (hlo : (st.map fun v => v.category).sum + 13 ≤ R.locals) (hcl : cells ≤ R.cells) (hsl : slots ≤ R.slots) {x y : Int32} (hdg : decode cc pc = .ok (.invokestatic index, 3)) (k : Sm p l e R s m args below meth c G A nL cells slots Q (pc + 3) lv (.int (if y < x then y else x) :: st) w) : Sm p l e R s m args below meth c G A nL cells slots Q pc lv (.int y :: .int x :: st) w := fun H locs ls hP hD hS hl => va_mmin X.hx X.hb (X.hml.trans hl.1.symm) X.hown (X.hts _ hlink) (X.hts _ hstat) (X.hts _ hini) (X.hts _ hcode) hfr hlo hcl hsl hdg (k H locs ls hP hD hS hl)
theorem s_abs (X : Cx p R s m args meth c G A nL cc Ts own ret) {index : Nat} (hlink : Cond.methodLink own index Lib.Math.abs.name ∈ Ts) (hstat : Cond.static Lib.Math.abs.name ∈ Ts) (hini : Cond.initialized "java/lang/Math" ∈ Ts) (hcode : Cond.code Lib.Math.abs.name Lib.Math.abs.code 1 (some .int) ∈ Ts) (hfr : 1 ≤ R.frames) (hlo : (st.map fun v => v.category).sum + 13 ≤ R.locals) (hcl : cells ≤ R.cells) (hsl : slots ≤ R.slots) {x : Int32} (hdg : decode cc pc = .ok (.invokestatic index, 3)) (k : Sm p l e R s m args below meth c G A nL cells slots Q (pc + 3) lv (.int (if 0 ≤ x then x else 0 - x) :: st) w) : Sm p l e R s m args below meth c G A nL cells slots Q pc lv (.int x :: st) w := fun H locs ls hP hD hS hl => va_mabs X.hx X.hb (X.hml.trans hl.1.symm) X.hown (X.hts _ hlink) (X.hts _ hstat) (X.hts _ hini) (X.hts _ hcode) hfr hlo hcl hsl hdg (k H locs ls hP hD hS hl)
theorem s_iret {r : Int32} {w1 : va_W} (X : Cx p R s m args meth c G A nL cc Ts own (some .int)) {v : Int32} (hdg : decode cc pc = .ok (.ireturn, 1)) (hv : v = r) (hw : w = w1) : Sm p l e R s m args below meth c G A nL 0 0 (Qci below G A args s r w1) pc lv [.int v] w := fun H locs ls hP hD hS hl => W.iret X.hx X.hb X.hr (fun t ht hW => ⟨⟨v, (), rfl, hv, by rw [ht]; exact hw ▸ hP, va_K.moved hW.alike X.hK, hw ▸ hD⟩, hS.F ht⟩) hS.2.2 hdg X.hlk
theorem s_zret {r : Int32} {w1 : va_W} (X : Cx p R s m args meth c G A nL cc Ts own (some .boolean)) {v : Int32} (h01 : v = 0 ∨ v = 1) (hdg : decode cc pc = .ok (.ireturn, 1)) (hv : v = r) (hw : w = w1) : Sm p l e R s m args below meth c G A nL 0 0 (Qci below G A args s r w1) pc lv [.int v] w := fun H locs ls hP hD hS hl => W.zret X.hx X.hb X.hr (nar01 h01) (fun t ht hW => ⟨⟨v, (), rfl, hv, by rw [ht]; exact hw ▸ hP, va_K.moved hW.alike X.hK, hw ▸ hD⟩, hS.F ht⟩) hS.2.2 hdg X.hlk
theorem s_vret {w1 : va_W} (X : Cx p R s m args meth c G A nL cc Ts own none) (hdg : decode cc pc = .ok (.return_, 1)) (hw : w = w1) : Sm p l e R s m args below meth c G A nL 0 0 (Qcv below G A args s w1) pc lv [] w := fun H locs ls hP hD hS hl => W.vret X.hx X.hb X.hr (fun t ht hW => ⟨⟨(), rfl, trivial, by rw [ht]; exact hw ▸ hP, va_K.moved hW.alike X.hK, hw ▸ hD⟩, hS.F ht⟩) hS.2.2 hdg X.hlk
theorem s_callVi (X : Cx p R s m args meth c G A nL cc Ts own ret) (d : Nat) {y : MethodName} {index n maxL : Nat} {bytes : ByteArray} {rt : Option FieldType} {ws2 ws3 : List Cond} {As : List Value} {b : Nat} {w0 w1 w2 : va_W} {r : Int32} (hM : Ci l G y ws2 (rmL d) (.ref b :: As) w0 r w1) {C : String} (hG : GoodIn Ts (wsV own index C y ws2)) (hws : ws2 = Cond.code y bytes maxL rt :: ws3) (hd : y.cls = C ∧ y.cls ≠ "java/lang/invoke/MethodHandle" ∧ y.cls ≠ "java/lang/invoke/VarHandle" ∧ (parseMethodDescriptor y.desc).map (fun d => d.parameters.length) = some n) (hR : (rmL d).frames + 1 ≤ R.frames ∧ 8 + (maxL + 11) + (rmL d).locals ≤ R.locals) {ci N : Nat} {T : u_T} {fs : List Value} (qr : Nat) (her : w0[qr]? = some (b, .inr (ci, fs))) (hcr : vwCl[ci]? = some (C, T, N)) (is : List Nat) (hC : is.map (fun i => w[i]?) = w0.map some) (hnd : va_nd is = true) (hlen : is.length = w1.length) (h2 : rp w is w1 = w2) (ads : List Nat) (hf1 : w.map Prod.fst = ads) (hf2 : w2.map Prod.fst = ads) (hn : As.length = n) {st0 : List Value} (hst : st0 = As.reverse ++ .ref b :: st) (hro : (st.map fun v => v.category).sum ≤ 8) (hcl : cells ≤ R.cells) (hsl : slots ≤ R.slots) (hdg : decode cc pc = .ok (.invokevirtual index, 3)) (k : Sm p l e R s m args below meth c G A nL cells slots Q (pc + 3) lv (.int r :: st) w2) : Sm p l e R s m args below meth c G A nL cells slots Q pc lv st0 w := by
  intro H locs ls hP hD hS hl
  have hP0 : va_P G.1 vwCl w0 H := fun k' q hk' => by
    have h3 : (is.map (fun i => w[i]?))[k']? = some (some q) := by rw [hC, List.getElem?_map, hk']; rfl
    rw [List.getElem?_map] at h3
    cases hi : is[k']? with
    | none => rw [hi] at h3; cases h3
    | some i => rw [hi] at h3; exact hP i q (Option.some.inj h3)
  have hD0 : va_D A w0 := hD.sub is hnd hC
  have hFc := va_free (wc := w0) hD hS X.hA is hC
  refine va_calli (va_runV (As := As) (rest := st) ⟨X.hx, X.hb, X.hml, X.hown, X.hts⟩ (hM H.size) (cwV n X.hts hG hws rfl rfl hd hR) ⟨pci_blind, va_recv X.hK hP0 hcr her, fun U hU hW => ⟨rfl, by rw [hU], by rw [hU]; exact hP0, va_K.moved hW.alike X.hK, hD0.weaken (fun _ _ _ _ => trivial)⟩⟩ rfl hn hl.1 hst (lv_room hro) hdg ⟨hcl, hsl⟩) hS (fun q _ h => hFc q h) hFc (fun r2 u t H1 locs1 ht hvm hw hB hz1 hk1 hS1 => ?_)
  have hw : r2 = r := hw
  subst hw
  obtain ⟨hP1, hK1, hD1⟩ := hB
  rw [ht] at hP1
  have hP2 := rp_P is hP hD hC hlen hP1 hk1
  rw [h2] at hP2
  exact k H1 locs1 ls hP2 (va_D_fst (hf2.trans hf1.symm) hD) hS1 hl
theorem s_callVv (X : Cx p R s m args meth c G A nL cc Ts own ret) (d : Nat) {y : MethodName} {index n maxL : Nat} {bytes : ByteArray} {rt : Option FieldType} {ws2 ws3 : List Cond} {As : List Value} {b : Nat} {w0 w1 w2 : va_W} (hM : Cv l G y ws2 (rmL d) (.ref b :: As) w0 w1) {C : String} (hG : GoodIn Ts (wsV own index C y ws2)) (hws : ws2 = Cond.code y bytes maxL rt :: ws3) (hd : y.cls = C ∧ y.cls ≠ "java/lang/invoke/MethodHandle" ∧ y.cls ≠ "java/lang/invoke/VarHandle" ∧ (parseMethodDescriptor y.desc).map (fun d => d.parameters.length) = some n) (hR : (rmL d).frames + 1 ≤ R.frames ∧ 8 + (maxL + 11) + (rmL d).locals ≤ R.locals) {ci N : Nat} {T : u_T} {fs : List Value} (qr : Nat) (her : w0[qr]? = some (b, .inr (ci, fs))) (hcr : vwCl[ci]? = some (C, T, N)) (is : List Nat) (hC : is.map (fun i => w[i]?) = w0.map some) (hnd : va_nd is = true) (hlen : is.length = w1.length) (h2 : rp w is w1 = w2) (ads : List Nat) (hf1 : w.map Prod.fst = ads) (hf2 : w2.map Prod.fst = ads) (hn : As.length = n) {st0 : List Value} (hst : st0 = As.reverse ++ .ref b :: st) (hro : (st.map fun v => v.category).sum ≤ 8) (hcl : cells ≤ R.cells) (hsl : slots ≤ R.slots) (hdg : decode cc pc = .ok (.invokevirtual index, 3)) (k : Sm p l e R s m args below meth c G A nL cells slots Q (pc + 3) lv (st) w2) : Sm p l e R s m args below meth c G A nL cells slots Q pc lv st0 w := by
  intro H locs ls hP hD hS hl
  have hP0 : va_P G.1 vwCl w0 H := fun k' q hk' => by
    have h3 : (is.map (fun i => w[i]?))[k']? = some (some q) := by rw [hC, List.getElem?_map, hk']; rfl
    rw [List.getElem?_map] at h3
    cases hi : is[k']? with
    | none => rw [hi] at h3; cases h3
    | some i => rw [hi] at h3; exact hP i q (Option.some.inj h3)
  have hD0 : va_D A w0 := hD.sub is hnd hC
  have hFc := va_free (wc := w0) hD hS X.hA is hC
  refine va_callv (va_runV (As := As) (rest := st) ⟨X.hx, X.hb, X.hml, X.hown, X.hts⟩ (hM H.size) (cwV n X.hts hG hws rfl rfl hd hR) ⟨pci_blind, va_recv X.hK hP0 hcr her, fun U hU hW => ⟨rfl, by rw [hU], by rw [hU]; exact hP0, va_K.moved hW.alike X.hK, hD0.weaken (fun _ _ _ _ => trivial)⟩⟩ rfl hn hl.1 hst (lv_room hro) hdg ⟨hcl, hsl⟩) hS (fun q _ h => hFc q h) hFc (fun u t H1 locs1 ht hvm hw hB hz1 hk1 hS1 => ?_)
  obtain ⟨hP1, hK1, hD1⟩ := hB
  rw [ht] at hP1
  have hP2 := rp_P is hP hD hC hlen hP1 hk1
  rw [h2] at hP2
  exact k H1 locs1 ls hP2 (va_D_fst (hf2.trans hf1.symm) hD) hS1 hl
theorem s_callSi (X : Cx p R s m args meth c G A nL cc Ts own ret) (d : Nat) {y : MethodName} {index n maxL : Nat} {bytes : ByteArray} {rt : Option FieldType} {ws2 ws3 : List Cond} {As : List Value} {w0 w1 w2 : va_W} {r : Int32} (hM : Ci l G y ws2 (rmL d) As w0 r w1) (hG : GoodIn Ts (va_wsS own index y ws2)) (hws : ws2 = Cond.code y bytes maxL rt :: ws3) (hd : y.cls ≠ "java/lang/invoke/MethodHandle" ∧ y.cls ≠ "java/lang/invoke/VarHandle" ∧ (parseMethodDescriptor y.desc).map (fun d => d.parameters.length) = some n) (hR : (rmL d).frames + 1 ≤ R.frames ∧ 8 + (maxL + 11) + (rmL d).locals ≤ R.locals)  (is : List Nat) (hC : is.map (fun i => w[i]?) = w0.map some) (hnd : va_nd is = true) (hlen : is.length = w1.length) (h2 : rp w is w1 = w2) (ads : List Nat) (hf1 : w.map Prod.fst = ads) (hf2 : w2.map Prod.fst = ads) (hn : As.length = n) {st0 : List Value} (hst : st0 = As.reverse ++ st) (hro : (st.map fun v => v.category).sum ≤ 8) (hcl : cells ≤ R.cells) (hsl : slots ≤ R.slots) (hdg : decode cc pc = .ok (.invokestatic index, 3)) (k : Sm p l e R s m args below meth c G A nL cells slots Q (pc + 3) lv (.int r :: st) w2) : Sm p l e R s m args below meth c G A nL cells slots Q pc lv st0 w := by
  intro H locs ls hP hD hS hl
  have hP0 : va_P G.1 vwCl w0 H := fun k' q hk' => by
    have h3 : (is.map (fun i => w[i]?))[k']? = some (some q) := by rw [hC, List.getElem?_map, hk']; rfl
    rw [List.getElem?_map] at h3
    cases hi : is[k']? with
    | none => rw [hi] at h3; cases h3
    | some i => rw [hi] at h3; exact hP i q (Option.some.inj h3)
  have hD0 : va_D A w0 := hD.sub is hnd hC
  have hFc := va_free (wc := w0) hD hS X.hA is hC
  refine va_calli (va_runS (As := As) (rest := st) ⟨X.hx, X.hb, X.hml, X.hown, X.hts⟩ (hM H.size) (va_cwS n X.hts hG hws rfl rfl hd hR) ⟨pci_blind, fun U hU hW => ⟨rfl, by rw [hU], by rw [hU]; exact hP0, va_K.moved hW.alike X.hK, hD0.weaken (fun _ _ _ _ => trivial)⟩⟩ rfl hn hl.1 hst (lv_room hro) hdg ⟨hcl, hsl⟩) hS (fun q _ h => hFc q h) hFc (fun r2 u t H1 locs1 ht hvm hw hB hz1 hk1 hS1 => ?_)
  have hw : r2 = r := hw
  subst hw
  obtain ⟨hP1, hK1, hD1⟩ := hB
  rw [ht] at hP1
  have hP2 := rp_P is hP hD hC hlen hP1 hk1
  rw [h2] at hP2
  exact k H1 locs1 ls hP2 (va_D_fst (hf2.trans hf1.symm) hD) hS1 hl
theorem s_callSv (X : Cx p R s m args meth c G A nL cc Ts own ret) (d : Nat) {y : MethodName} {index n maxL : Nat} {bytes : ByteArray} {rt : Option FieldType} {ws2 ws3 : List Cond} {As : List Value} {w0 w1 w2 : va_W} (hM : Cv l G y ws2 (rmL d) As w0 w1) (hG : GoodIn Ts (va_wsS own index y ws2)) (hws : ws2 = Cond.code y bytes maxL rt :: ws3) (hd : y.cls ≠ "java/lang/invoke/MethodHandle" ∧ y.cls ≠ "java/lang/invoke/VarHandle" ∧ (parseMethodDescriptor y.desc).map (fun d => d.parameters.length) = some n) (hR : (rmL d).frames + 1 ≤ R.frames ∧ 8 + (maxL + 11) + (rmL d).locals ≤ R.locals)  (is : List Nat) (hC : is.map (fun i => w[i]?) = w0.map some) (hnd : va_nd is = true) (hlen : is.length = w1.length) (h2 : rp w is w1 = w2) (ads : List Nat) (hf1 : w.map Prod.fst = ads) (hf2 : w2.map Prod.fst = ads) (hn : As.length = n) {st0 : List Value} (hst : st0 = As.reverse ++ st) (hro : (st.map fun v => v.category).sum ≤ 8) (hcl : cells ≤ R.cells) (hsl : slots ≤ R.slots) (hdg : decode cc pc = .ok (.invokestatic index, 3)) (k : Sm p l e R s m args below meth c G A nL cells slots Q (pc + 3) lv (st) w2) : Sm p l e R s m args below meth c G A nL cells slots Q pc lv st0 w := by
  intro H locs ls hP hD hS hl
  have hP0 : va_P G.1 vwCl w0 H := fun k' q hk' => by
    have h3 : (is.map (fun i => w[i]?))[k']? = some (some q) := by rw [hC, List.getElem?_map, hk']; rfl
    rw [List.getElem?_map] at h3
    cases hi : is[k']? with
    | none => rw [hi] at h3; cases h3
    | some i => rw [hi] at h3; exact hP i q (Option.some.inj h3)
  have hD0 : va_D A w0 := hD.sub is hnd hC
  have hFc := va_free (wc := w0) hD hS X.hA is hC
  refine va_callv (va_runS (As := As) (rest := st) ⟨X.hx, X.hb, X.hml, X.hown, X.hts⟩ (hM H.size) (va_cwS n X.hts hG hws rfl rfl hd hR) ⟨pci_blind, fun U hU hW => ⟨rfl, by rw [hU], by rw [hU]; exact hP0, va_K.moved hW.alike X.hK, hD0.weaken (fun _ _ _ _ => trivial)⟩⟩ rfl hn hl.1 hst (lv_room hro) hdg ⟨hcl, hsl⟩) hS (fun q _ h => hFc q h) hFc (fun u t H1 locs1 ht hvm hw hB hz1 hk1 hS1 => ?_)
  obtain ⟨hP1, hK1, hD1⟩ := hB
  rw [ht] at hP1
  have hP2 := rp_P is hP hD hC hlen hP1 hk1
  rw [h2] at hP2
  exact k H1 locs1 ls hP2 (va_D_fst (hf2.trans hf1.symm) hD) hS1 hl
theorem s_callVi0 (X : Cx p R s m args meth c G A nL cc Ts own ret) (d : Nat) {y : MethodName} {index n maxL : Nat} {bytes : ByteArray} {rt : Option FieldType} {ws2 ws3 : List Cond} {As : List Value} {b : Nat} {w2 : va_W} {r : Int32} (hM : Ci l G y ws2 (rmL d) (.ref b :: As) w r w2) {C : String} (hG : GoodIn Ts (wsV own index C y ws2)) (hws : ws2 = Cond.code y bytes maxL rt :: ws3) (hd : y.cls = C ∧ y.cls ≠ "java/lang/invoke/MethodHandle" ∧ y.cls ≠ "java/lang/invoke/VarHandle" ∧ (parseMethodDescriptor y.desc).map (fun d => d.parameters.length) = some n) (hR : (rmL d).frames + 1 ≤ R.frames ∧ 8 + (maxL + 11) + (rmL d).locals ≤ R.locals) {ci N : Nat} {T : u_T} {fs : List Value} (qr : Nat) (her : w[qr]? = some (b, .inr (ci, fs))) (hcr : vwCl[ci]? = some (C, T, N)) (hn : As.length = n) {st0 : List Value} (hst : st0 = As.reverse ++ .ref b :: st) (hro : (st.map fun v => v.category).sum ≤ 8) (hcl : cells ≤ R.cells) (hsl : slots ≤ R.slots) (hdg : decode cc pc = .ok (.invokevirtual index, 3)) (k : Sm p l e R s m args below meth c G A nL cells slots Q (pc + 3) lv (.int r :: st) w2) : Sm p l e R s m args below meth c G A nL cells slots Q pc lv st0 w := by
  intro H locs ls hP hD hS hl
  have hFc : ∀ q, va_A w H.size q → A q := fun q h => by
    rcases h with ⟨k', e', hk'⟩ | hge
    · exact hD.2 k' _ hk'
    · exact X.hA q (Nat.le_trans hS.1 hge)
  refine va_calli (va_runV (As := As) (rest := st) ⟨X.hx, X.hb, X.hml, X.hown, X.hts⟩ (hM H.size) (cwV n X.hts hG hws rfl rfl hd hR) ⟨pci_blind, va_recv X.hK hP hcr her, fun U hU hW => ⟨rfl, by rw [hU], by rw [hU]; exact hP, va_K.moved hW.alike X.hK, hD.weaken (fun _ _ _ _ => trivial)⟩⟩ rfl hn hl.1 hst (lv_room hro) hdg ⟨hcl, hsl⟩) hS (fun q _ h => hFc q h) hFc (fun r2 u t H1 locs1 ht hvm hw hB hz1 hk1 hS1 => ?_)
  have hw : r2 = r := hw
  subst hw
  obtain ⟨hP1, hK1, hD1⟩ := hB
  rw [ht] at hP1
  exact k H1 locs1 ls hP1 (hD1.weaken (fun _ _ _ h => hFc _ h)) hS1 hl
theorem s_callVv0 (X : Cx p R s m args meth c G A nL cc Ts own ret) (d : Nat) {y : MethodName} {index n maxL : Nat} {bytes : ByteArray} {rt : Option FieldType} {ws2 ws3 : List Cond} {As : List Value} {b : Nat} {w2 : va_W} (hM : Cv l G y ws2 (rmL d) (.ref b :: As) w w2) {C : String} (hG : GoodIn Ts (wsV own index C y ws2)) (hws : ws2 = Cond.code y bytes maxL rt :: ws3) (hd : y.cls = C ∧ y.cls ≠ "java/lang/invoke/MethodHandle" ∧ y.cls ≠ "java/lang/invoke/VarHandle" ∧ (parseMethodDescriptor y.desc).map (fun d => d.parameters.length) = some n) (hR : (rmL d).frames + 1 ≤ R.frames ∧ 8 + (maxL + 11) + (rmL d).locals ≤ R.locals) {ci N : Nat} {T : u_T} {fs : List Value} (qr : Nat) (her : w[qr]? = some (b, .inr (ci, fs))) (hcr : vwCl[ci]? = some (C, T, N)) (hn : As.length = n) {st0 : List Value} (hst : st0 = As.reverse ++ .ref b :: st) (hro : (st.map fun v => v.category).sum ≤ 8) (hcl : cells ≤ R.cells) (hsl : slots ≤ R.slots) (hdg : decode cc pc = .ok (.invokevirtual index, 3)) (k : Sm p l e R s m args below meth c G A nL cells slots Q (pc + 3) lv (st) w2) : Sm p l e R s m args below meth c G A nL cells slots Q pc lv st0 w := by
  intro H locs ls hP hD hS hl
  have hFc : ∀ q, va_A w H.size q → A q := fun q h => by
    rcases h with ⟨k', e', hk'⟩ | hge
    · exact hD.2 k' _ hk'
    · exact X.hA q (Nat.le_trans hS.1 hge)
  refine va_callv (va_runV (As := As) (rest := st) ⟨X.hx, X.hb, X.hml, X.hown, X.hts⟩ (hM H.size) (cwV n X.hts hG hws rfl rfl hd hR) ⟨pci_blind, va_recv X.hK hP hcr her, fun U hU hW => ⟨rfl, by rw [hU], by rw [hU]; exact hP, va_K.moved hW.alike X.hK, hD.weaken (fun _ _ _ _ => trivial)⟩⟩ rfl hn hl.1 hst (lv_room hro) hdg ⟨hcl, hsl⟩) hS (fun q _ h => hFc q h) hFc (fun u t H1 locs1 ht hvm hw hB hz1 hk1 hS1 => ?_)
  obtain ⟨hP1, hK1, hD1⟩ := hB
  rw [ht] at hP1
  exact k H1 locs1 ls hP1 (hD1.weaken (fun _ _ _ h => hFc _ h)) hS1 hl
theorem s_callSi0 (X : Cx p R s m args meth c G A nL cc Ts own ret) (d : Nat) {y : MethodName} {index n maxL : Nat} {bytes : ByteArray} {rt : Option FieldType} {ws2 ws3 : List Cond} {As : List Value} {w2 : va_W} {r : Int32} (hM : Ci l G y ws2 (rmL d) As w r w2) (hG : GoodIn Ts (va_wsS own index y ws2)) (hws : ws2 = Cond.code y bytes maxL rt :: ws3) (hd : y.cls ≠ "java/lang/invoke/MethodHandle" ∧ y.cls ≠ "java/lang/invoke/VarHandle" ∧ (parseMethodDescriptor y.desc).map (fun d => d.parameters.length) = some n) (hR : (rmL d).frames + 1 ≤ R.frames ∧ 8 + (maxL + 11) + (rmL d).locals ≤ R.locals)  (hn : As.length = n) {st0 : List Value} (hst : st0 = As.reverse ++ st) (hro : (st.map fun v => v.category).sum ≤ 8) (hcl : cells ≤ R.cells) (hsl : slots ≤ R.slots) (hdg : decode cc pc = .ok (.invokestatic index, 3)) (k : Sm p l e R s m args below meth c G A nL cells slots Q (pc + 3) lv (.int r :: st) w2) : Sm p l e R s m args below meth c G A nL cells slots Q pc lv st0 w := by
  intro H locs ls hP hD hS hl
  have hFc : ∀ q, va_A w H.size q → A q := fun q h => by
    rcases h with ⟨k', e', hk'⟩ | hge
    · exact hD.2 k' _ hk'
    · exact X.hA q (Nat.le_trans hS.1 hge)
  refine va_calli (va_runS (As := As) (rest := st) ⟨X.hx, X.hb, X.hml, X.hown, X.hts⟩ (hM H.size) (va_cwS n X.hts hG hws rfl rfl hd hR) ⟨pci_blind, fun U hU hW => ⟨rfl, by rw [hU], by rw [hU]; exact hP, va_K.moved hW.alike X.hK, hD.weaken (fun _ _ _ _ => trivial)⟩⟩ rfl hn hl.1 hst (lv_room hro) hdg ⟨hcl, hsl⟩) hS (fun q _ h => hFc q h) hFc (fun r2 u t H1 locs1 ht hvm hw hB hz1 hk1 hS1 => ?_)
  have hw : r2 = r := hw
  subst hw
  obtain ⟨hP1, hK1, hD1⟩ := hB
  rw [ht] at hP1
  exact k H1 locs1 ls hP1 (hD1.weaken (fun _ _ _ h => hFc _ h)) hS1 hl
theorem s_callSv0 (X : Cx p R s m args meth c G A nL cc Ts own ret) (d : Nat) {y : MethodName} {index n maxL : Nat} {bytes : ByteArray} {rt : Option FieldType} {ws2 ws3 : List Cond} {As : List Value} {w2 : va_W} (hM : Cv l G y ws2 (rmL d) As w w2) (hG : GoodIn Ts (va_wsS own index y ws2)) (hws : ws2 = Cond.code y bytes maxL rt :: ws3) (hd : y.cls ≠ "java/lang/invoke/MethodHandle" ∧ y.cls ≠ "java/lang/invoke/VarHandle" ∧ (parseMethodDescriptor y.desc).map (fun d => d.parameters.length) = some n) (hR : (rmL d).frames + 1 ≤ R.frames ∧ 8 + (maxL + 11) + (rmL d).locals ≤ R.locals)  (hn : As.length = n) {st0 : List Value} (hst : st0 = As.reverse ++ st) (hro : (st.map fun v => v.category).sum ≤ 8) (hcl : cells ≤ R.cells) (hsl : slots ≤ R.slots) (hdg : decode cc pc = .ok (.invokestatic index, 3)) (k : Sm p l e R s m args below meth c G A nL cells slots Q (pc + 3) lv (st) w2) : Sm p l e R s m args below meth c G A nL cells slots Q pc lv st0 w := by
  intro H locs ls hP hD hS hl
  have hFc : ∀ q, va_A w H.size q → A q := fun q h => by
    rcases h with ⟨k', e', hk'⟩ | hge
    · exact hD.2 k' _ hk'
    · exact X.hA q (Nat.le_trans hS.1 hge)
  refine va_callv (va_runS (As := As) (rest := st) ⟨X.hx, X.hb, X.hml, X.hown, X.hts⟩ (hM H.size) (va_cwS n X.hts hG hws rfl rfl hd hR) ⟨pci_blind, fun U hU hW => ⟨rfl, by rw [hU], by rw [hU]; exact hP, va_K.moved hW.alike X.hK, hD.weaken (fun _ _ _ _ => trivial)⟩⟩ rfl hn hl.1 hst (lv_room hro) hdg ⟨hcl, hsl⟩) hS (fun q _ h => hFc q h) hFc (fun u t H1 locs1 ht hvm hw hB hz1 hk1 hS1 => ?_)
  obtain ⟨hP1, hK1, hD1⟩ := hB
  rw [ht] at hP1
  exact k H1 locs1 ls hP1 (hD1.weaken (fun _ _ _ h => hFc _ h)) hS1 hl
theorem s_callSiN (X : Cx p R s m args meth c G A nL cc Ts own ret) (d : Nat) {y : MethodName} {index n maxL : Nat} {bytes : ByteArray} {rt : Option FieldType} {ws2 ws3 : List Cond} {As : List Value} {r : Int32} (hM : Ci l G y ws2 (rmL d) As [] r []) (hG : GoodIn Ts (va_wsS own index y ws2)) (hws : ws2 = Cond.code y bytes maxL rt :: ws3) (hd : y.cls ≠ "java/lang/invoke/MethodHandle" ∧ y.cls ≠ "java/lang/invoke/VarHandle" ∧ (parseMethodDescriptor y.desc).map (fun d => d.parameters.length) = some n) (hR : (rmL d).frames + 1 ≤ R.frames ∧ 8 + (maxL + 11) + (rmL d).locals ≤ R.locals) (hn : As.length = n) {st0 : List Value} (hst : st0 = As.reverse ++ st) (hro : (st.map fun v => v.category).sum ≤ 8) (hcl : cells ≤ R.cells) (hsl : slots ≤ R.slots) (hdg : decode cc pc = .ok (.invokestatic index, 3)) (k : Sm p l e R s m args below meth c G A nL cells slots Q (pc + 3) lv (.int r :: st) w) : Sm p l e R s m args below meth c G A nL cells slots Q pc lv st0 w :=
  s_callSi X (st := st) (w := w) (w2 := w) d hM hG hws hd hR [] rfl rfl rfl rfl (w.map Prod.fst) rfl rfl hn hst hro hcl hsl hdg k
end SROWS
theorem ci_start {l : Launch} {G : GT} {y : MethodName} {ws ws2 : List Cond} {rm : Room} {av : List Value} {w0 w1 : va_W} {r : Int32} {cc : ByteArray} {maxL : Nat} {own : String} (rt : FieldType) (hy : plainName y.cls = true) (hw : ws = Cond.code y cc maxL (some rt) :: ws2) (hown : y.cls = own) (hlen : (lg_sl av).length ≤ maxL)
    (body : ∀ (p : Program) (e : Env) (s : State) (m : MethodId) (args : Array Value) (below : List Frame) (meth : Method) (c : Code) (A : Nat → Prop), Cx p rm s m args meth c G A maxL cc ws own (some rt) → Sm p l e rm s m args below meth c G A maxL 0 0 (Qci below G A args s r w1) 0 (lv_args 0 av) [] w0) : Ci l G y ws rm av w0 r w1 := by
  intro sz
  refine Met.ofW (cc := cc) (maxL := maxL) (ret := (some rt)) hy hw ?_
  intro p e s m args below meth c s₁ B hml hv
  obtain ⟨rfl, hsz, hP, hK, hD0⟩ := hv
  have hts := atoms_spec (ws := ws) B.pre
  have hown2 : s.vm.findClass own = some m.cls := by rw [← hown]; exact findClass_of_methodNamed B.named
  subst hsz
  have hD := hD0.self (sz := s.heap.size)
  generalize hAe : va_A w0 s.heap.size = A at hD ⊢
  have hA : ∀ q : Nat, s.heap.size ≤ q → A q := fun q h => by rw [← hAe]; exact Or.inr h
  have hl := lv_entry av (n := maxL) hlen
  rw [lg_entry_eq]
  exact body p e s m _ below meth c A ⟨B.exec, B.bytes, hml, hown2, hts, hK, hA, B.notSynchronized, B.returns⟩ s.heap [] _ hP hD va_S.rf hl
theorem cv_start {l : Launch} {G : GT} {y : MethodName} {ws ws2 : List Cond} {rm : Room} {av : List Value} {w0 w1 : va_W} {cc : ByteArray} {maxL : Nat} {own : String} (hy : plainName y.cls = true) (hw : ws = Cond.code y cc maxL none :: ws2) (hown : y.cls = own) (hlen : (lg_sl av).length ≤ maxL)
    (body : ∀ (p : Program) (e : Env) (s : State) (m : MethodId) (args : Array Value) (below : List Frame) (meth : Method) (c : Code) (A : Nat → Prop), Cx p rm s m args meth c G A maxL cc ws own none → Sm p l e rm s m args below meth c G A maxL 0 0 (Qcv below G A args s w1) 0 (lv_args 0 av) [] w0) : Cv l G y ws rm av w0 w1 := by
  intro sz
  refine Met.ofW (cc := cc) (maxL := maxL) (ret := none) hy hw ?_
  intro p e s m args below meth c s₁ B hml hv
  obtain ⟨rfl, hsz, hP, hK, hD0⟩ := hv
  have hts := atoms_spec (ws := ws) B.pre
  have hown2 : s.vm.findClass own = some m.cls := by rw [← hown]; exact findClass_of_methodNamed B.named
  subst hsz
  have hD := hD0.self (sz := s.heap.size)
  generalize hAe : va_A w0 s.heap.size = A at hD ⊢
  have hA : ∀ q : Nat, s.heap.size ≤ q → A q := fun q h => by rw [← hAe]; exact Or.inr h
  have hl := lv_entry av (n := maxL) hlen
  rw [lg_entry_eq]
  exact body p e s m _ below meth c A ⟨B.exec, B.bytes, hml, hown2, hts, hK, hA, B.notSynchronized, B.returns⟩ s.heap [] _ hP hD va_S.rf hl
