abbrev rmN (d mc ms : Nat) : Room := { frames := d + 1, cells := mc, slots := ms, locals := 60 * d + 60 }
/-- an address ahead of others -/
def cA (a : Nat) (ad : Nat → Nat) : Nat → Nat := fun k => match k with
  | 0 => a
  | k + 1 => ad k
/-- words of nest mates -/
def NWs (nw : List Cond) (U : State) : Prop := ∀ w ∈ nw, va_Nw w U
def Qcn {S : Type} (below : List Frame) (G : GT) (A : Nat → Prop) (args : Array Value) (s : State) (mc ms : Nat) (W1 : S → va_W) : State → Prop :=
  MQ below (va_Qv (fun (_ : S) => True) (fun u t => va_P G.1 vwCl (W1 u) t.heap ∧ va_K G.1 vwCl (tyK G) t ∧ va_D A (W1 u)) A) args s mc ms A
abbrev Pcn (G : GT) (nw : List Cond) (av : List Value) (w0 : va_W) (sz : Nat) : Array Value → State → Prop := va_Pc av (fun U => U.heap.size = sz ∧ va_P G.1 vwCl w0 U.heap ∧ va_K G.1 vwCl (tyK G) U ∧ va_D (fun _ => True) w0 ∧ NWs nw U)
/-- a constructor's contract: mc cells of ms slots come; what lies there then is W1, at some addresses -/
def Cn {S : Type} (l : Launch) (G : GT) (y : MethodName) (ws : List Cond) (d mc ms : Nat) (nw : List Cond) (av : List Value) (w0 : va_W) (W1 : S → va_W) : Prop :=
  ∀ sz : Nat, Met l y ws (rmN d mc ms) (Pcn G nw av w0 sz) (va_Qv (fun (_ : S) => True) (fun u t => va_P G.1 vwCl (W1 u) t.heap ∧ va_K G.1 vwCl (tyK G) t ∧ va_D (va_A w0 sz) (W1 u)) (va_A w0 sz)) mc ms (va_A w0 sz)
theorem cn_start {S : Type} {l : Launch} {G : GT} {y : MethodName} {ws ws2 : List Cond} {d mc ms : Nat} {nw : List Cond} {av : List Value} {w0 : va_W} {W1 : S → va_W} {cc : ByteArray} {maxL : Nat} {own : String} (hy : plainName y.cls = true) (hw : ws = Cond.code y cc maxL none :: ws2) (hown : y.cls = own) (hnm : y.name = "<init>") (hlen : (lg_sl av).length ≤ maxL)
    (body : ∀ (p : Program) (e : Env) (s : State) (m : MethodId) (args : Array Value) (below : List Frame) (meth : Method) (c : Code) (A : Nat → Prop), Cx p (rmN d mc ms) s m args meth c G A maxL cc ws own none → meth.name = "<init>" → NWs nw s → Sm p l e (rmN d mc ms) s m args below meth c G A maxL 0 0 (Qcn below G A args s mc ms W1) 0 (lv_args 0 av) [] w0) : Cn l G y ws d mc ms nw av w0 W1 := by
  intro sz
  refine Met.ofW (cc := cc) (maxL := maxL) (ret := none) hy hw ?_
  intro p e s m args below meth c s₁ B hml hv
  obtain ⟨rfl, hsz, hP, hK, hD0, hnw⟩ := hv
  have hts := atoms_spec (ws := ws) B.pre
  have hown2 : s.vm.findClass own = some m.cls := by rw [← hown]; exact findClass_of_methodNamed B.named
  have hin : meth.name = "<init>" := by rw [← hnm]; exact (name_of_methodNamed B.named B.method).1
  subst hsz
  have hD := hD0.self (sz := s.heap.size)
  generalize hAe : va_A w0 s.heap.size = A at hD ⊢
  have hA : ∀ q : Nat, s.heap.size ≤ q → A q := fun q h => by rw [← hAe]; exact Or.inr h
  have hl := lv_entry av (n := maxL) hlen
  rw [lg_entry_eq]
  exact body p e s m _ below meth c A ⟨B.exec, B.bytes, hml, hown2, hts, hK, hA, B.notSynchronized, B.returns⟩ hin hnw s.heap [] _ hP hD va_S.rf hl
section MKROWS
variable {p : Program} {l : Launch} {e : Env} {R : Room} {s : State} {m : MethodId} {args : Array Value} {below : List Frame} {meth : Method} {c : Code} {G : GT} {A : Nat → Prop} {nL cells slots : Nat} {Q : State → Prop} {cc : ByteArray} {Ts : List Cond} {own : String} {ret : Option FieldType} {pc : Nat} {lv : LV} {st : List Value} {w : va_W}
theorem s_newi (X : Cx p R s m args meth c G A nL cc Ts own ret) (harr : Cond.arrayClass .int ∈ Ts) {n : Int32} {N : Nat} (hn : ¬ n < 0) (hN : n.toNatClampNeg = N) (hby : N * componentBytes .int ≤ 536870912) (hcells : cells + 1 ≤ R.cells) (hslots : slots + N ≤ R.slots) (hdg : decode cc pc = .ok (.newarray .int, 2)) (k : ∀ q : Nat, Sm p l e R s m args below meth c G A nL (cells + 1) (slots + N) Q (pc + 2) lv (.ref q :: st) (w ++ [(q, .inl (G.2.1, N, .inl (fun _ => 0)))])) : Sm p l e R s m args below meth c G A nL cells slots Q pc lv (.int n :: st) w :=
  fun H locs ls hP hD hS hl => va_newa (atype := .int) (a0 := (N, .inl (fun _ => 0))) X.hx X.hb (X.hts _ harr) rfl X.hK hP hD hS X.hA (fun _ => rfl) hn hN hby hcells hslots hdg (fun q cB H1 hK1 hP1 hD1 hS1 => by
    have e : cB = G.2.1 := Option.some.inj (Eq.trans (Eq.symm (show s.vm.findClass ("[" ++ FieldType.int.toString) = some cB from (hK1.2 2 (cB, .int) rfl).2)) (show s.vm.findClass ("[" ++ FieldType.int.toString) = some G.2.1 from (X.hK.2 0 (G.2.1, .int) rfl).2))
    subst e
    exact k q H1 locs ls hP1 hD1 hS1 hl)
theorem s_newz (X : Cx p R s m args meth c G A nL cc Ts own ret) (harr : Cond.arrayClass .boolean ∈ Ts) {n : Int32} {N : Nat} (hn : ¬ n < 0) (hN : n.toNatClampNeg = N) (hby : N * componentBytes .boolean ≤ 536870912) (hcells : cells + 1 ≤ R.cells) (hslots : slots + N ≤ R.slots) (hdg : decode cc pc = .ok (.newarray .boolean, 2)) (k : ∀ q : Nat, Sm p l e R s m args below meth c G A nL (cells + 1) (slots + N) Q (pc + 2) lv (.ref q :: st) (w ++ [(q, .inl (G.2.2, N, .inl (fun _ => 0)))])) : Sm p l e R s m args below meth c G A nL cells slots Q pc lv (.int n :: st) w :=
  fun H locs ls hP hD hS hl => va_newa (atype := .boolean) (a0 := (N, .inl (fun _ => 0))) X.hx X.hb (X.hts _ harr) rfl X.hK hP hD hS X.hA (fun _ => rfl) hn hN hby hcells hslots hdg (fun q cB H1 hK1 hP1 hD1 hS1 => by
    have e : cB = G.2.2 := Option.some.inj (Eq.trans (Eq.symm (show s.vm.findClass ("[" ++ FieldType.boolean.toString) = some cB from (hK1.2 2 (cB, .boolean) rfl).2)) (show s.vm.findClass ("[" ++ FieldType.boolean.toString) = some G.2.2 from (X.hK.2 1 (G.2.2, .boolean) rfl).2))
    subst e
    exact k q H1 locs ls hP1 hD1 hS1 hl)
theorem s_newo (X : Cx p R s m args meth c G A nL cc Ts own ret) {C : String} {T : u_T} {N ci index : Nat} (hin : ∀ z ∈ u_ws C T N, z ∈ Ts) (ty : Nat → FieldType) (hty : ∀ k, k < N → parseFieldDescriptor (T k).2.2.1 = some (ty k)) (hcl : Cond.classLink own index C ∈ Ts) (hinst : Cond.instantiable C N ∈ Ts) (hini : Cond.initialized C ∈ Ts) (hc : vwCl[ci]? = some (C, T, N)) {fs : List Value} (hfs : ∀ j, j < N → defaultValue (ty j) = vp_V fs j) (hcells : cells + 1 ≤ R.cells) (hslots : slots + N ≤ R.slots) (hdg : decode cc pc = .ok (.new index, 3)) (k : ∀ q : Nat, Sm p l e R s m args below meth c G A nL (cells + 1) (slots + N) Q (pc + 3) lv (.ref q :: st) (w ++ [(q, .inr (ci, fs))])) : Sm p l e R s m args below meth c G A nL cells slots Q pc lv st w :=
  fun H locs ls hP hD hS hl => va_new X.hx X.hb X.hts hin ty hty X.hown (X.hts _ hcl) (X.hts _ hinst) (X.hts _ hini) X.hK hP hD hS X.hA hc hfs hcells hslots hdg (fun q H1 hP1 hD1 hS1 => k q H1 locs ls hP1 hD1 hS1 hl)
theorem s_oinit (X : Cx p R s m args meth c G A nL cc Ts own ret) {idx : Nat} (hlink : Cond.methodLink own idx objectInit ∈ Ts) (hinst : Cond.instanceMethod objectInit ∈ Ts) (hcode : Cond.code objectInit ⟨#[0xb1]⟩ 1 none ∈ Ts) {a : Nat} (hdg : decode cc pc = .ok (.invokespecial idx, 3)) (hfr : 1 ≤ R.frames) (hlo : (st.map fun v => v.category).sum + 12 ≤ R.locals) (k : Sm p l e R s m args below meth c G A nL cells slots Q (pc + 3) lv st w) : Sm p l e R s m args below meth c G A nL cells slots Q pc lv (.ref a :: st) w :=
  fun H locs ls hP hD hS hl => W.objInit X.hx X.hb X.hown (X.hts _ hlink) (X.hts _ hinst) (X.hts _ hcode) rfl (by rw [X.hml]; exact hl.1) rfl hdg hfr (by simpa [F0, JFrame.monitorRoom] using hlo) (W.eq (g2 := F0 m (pc + 3) ls st) rfl (k H locs ls hP hD hS hl))
theorem s_vretN {S : Type} {W1 : S → va_W} {Rm : Room} (X : Cx p Rm s m args meth c G A nL cc Ts own none) (hdg : decode cc pc = .ok (.return_, 1)) (u : S) (hw : w = W1 u) : Sm p l e Rm s m args below meth c G A nL cells slots (Qcn below G A args s cells slots W1) pc lv [] w := by
  intro H locs ls hP hD hS hl
  subst hw
  exact W.vret X.hx X.hb X.hr (fun t ht hW => ⟨⟨u, rfl, trivial, by rw [ht]; exact hP, va_K.moved hW.alike X.hK, hD⟩, hS.F ht⟩) hS.2.2 hdg X.hlk
theorem mk_join {w0 w1 wr : va_W} {H H1 : Heap} (hP : va_P G.1 vwCl (wr ++ w0) H) (hD : va_D A (wr ++ w0)) (hP1 : va_P G.1 vwCl w1 H1) (hD1 : va_D (va_A w0 H.size) w1) (hk : ∀ q : Nat, q < H.size → ¬ va_A w0 H.size q → H1[q]? = H[q]?) (hF : ∀ q, va_A w0 H.size q → A q) : va_P G.1 vwCl (wr ++ w1) H1 ∧ va_D A (wr ++ w1) := by
  have hn := (D_mem.mp hD).1
  rw [List.map_append] at hn
  have hn := List.nodup_append.mp hn
  have hd1 := D_mem.mp hD1
  have hP' := P_mem.mp hP
  have hapart : ∀ q ∈ wr, ¬ va_A w0 H.size q.1 := fun q hq hA => by
    rcases A_mem.mp hA with h1 | h1
    · exact hn.2.2 _ (List.mem_map.mpr ⟨q, hq, rfl⟩) _ h1 rfl
    · exact absurd (hP' q (List.mem_append_left _ hq)).lt (Nat.not_lt.mpr h1)
  refine ⟨P_mem.mpr fun q hq => ?_, D_mem.mpr ⟨?_, fun q hq => ?_⟩⟩
  · rcases List.mem_append.mp hq with h | h
    · have ha := hP' q (List.mem_append_left _ h)
      exact ha.kept (hk _ ha.lt (hapart q h))
    · exact P_mem.mp hP1 q h
  · rw [List.map_append]
    refine List.nodup_append.mpr ⟨hn.1, hd1.1, fun a ha b hb e => ?_⟩
    obtain ⟨x, hx, rfl⟩ := List.mem_map.mp ha
    obtain ⟨y, hy, rfl⟩ := List.mem_map.mp hb
    exact hapart x hx (e ▸ hd1.2 y hy)
  · rcases List.mem_append.mp hq with h | h
    · exact (D_mem.mp hD).2 q (List.mem_append_left _ h)
    · exact hF _ (hd1.2 q h)
theorem pcn_blind {nw : List Cond} (hon : ∀ z ∈ nw, z.onTables = true) {av : List Value} {w0 : va_W} {sz : Nat} : FrameBlind (Pcn G nw av w0 sz) := fun a U g mk q => by
  obtain ⟨q0, q1, qP, qK, qD, qN⟩ := q
  exact ⟨q0, q1, qP, va_K.moved (u := U) (U := U.calling g mk a) (Vm.Alike.refl U.vm) qK, qD, fun z hz => va_Nw.same (u := U) (hon z hz) rfl (qN z hz)⟩
theorem s_newi2 (X : Cx p R s m args meth c G A nL cc Ts own ret) {n : Int32} {N : Nat} (w2 : Nat → va_W) (hw2 : ∀ q : Nat, w ++ [(q, .inl (G.2.1, N, .inl (fun _ => 0)))] = w2 q) (harr : Cond.arrayClass .int ∈ Ts) (hn : ¬ n < 0) (hN : n.toNatClampNeg = N) (hby : N * componentBytes .int ≤ 536870912) (hcells : cells + 1 ≤ R.cells) (hslots : slots + N ≤ R.slots) (hdg : decode cc pc = .ok (.newarray .int, 2)) (k : ∀ q : Nat, Sm p l e R s m args below meth c G A nL (cells + 1) (slots + N) Q (pc + 2) lv (.ref q :: st) (w2 q)) : Sm p l e R s m args below meth c G A nL cells slots Q pc lv (.int n :: st) w := s_newi X harr hn hN hby hcells hslots hdg (fun q => by rw [hw2 q]; exact k q)
theorem s_newz2 (X : Cx p R s m args meth c G A nL cc Ts own ret) {n : Int32} {N : Nat} (w2 : Nat → va_W) (hw2 : ∀ q : Nat, w ++ [(q, .inl (G.2.2, N, .inl (fun _ => 0)))] = w2 q) (harr : Cond.arrayClass .boolean ∈ Ts) (hn : ¬ n < 0) (hN : n.toNatClampNeg = N) (hby : N * componentBytes .boolean ≤ 536870912) (hcells : cells + 1 ≤ R.cells) (hslots : slots + N ≤ R.slots) (hdg : decode cc pc = .ok (.newarray .boolean, 2)) (k : ∀ q : Nat, Sm p l e R s m args below meth c G A nL (cells + 1) (slots + N) Q (pc + 2) lv (.ref q :: st) (w2 q)) : Sm p l e R s m args below meth c G A nL cells slots Q pc lv (.int n :: st) w := s_newz X harr hn hN hby hcells hslots hdg (fun q => by rw [hw2 q]; exact k q)
theorem s_newo2 (X : Cx p R s m args meth c G A nL cc Ts own ret) {C : String} {T : u_T} {N ci index : Nat} {w2 : Nat → va_W} (hin : ∀ z ∈ u_ws C T N, z ∈ Ts) (ty : Nat → FieldType) (hty : ∀ k, k < N → parseFieldDescriptor (T k).2.2.1 = some (ty k)) (hcl : Cond.classLink own index C ∈ Ts) (hinst : Cond.instantiable C N ∈ Ts) (hini : Cond.initialized C ∈ Ts) (hc : vwCl[ci]? = some (C, T, N)) {fs : List Value} (hfs : ∀ j, j < N → defaultValue (ty j) = vp_V fs j) (hw2 : ∀ q : Nat, w ++ [(q, .inr (ci, fs))] = w2 q) (hcells : cells + 1 ≤ R.cells) (hslots : slots + N ≤ R.slots) (hdg : decode cc pc = .ok (.new index, 3)) (k : ∀ q : Nat, Sm p l e R s m args below meth c G A nL (cells + 1) (slots + N) Q (pc + 3) lv (.ref q :: st) (w2 q)) : Sm p l e R s m args below meth c G A nL cells slots Q pc lv st w := s_newo X hin ty hty hcl hinst hini hc hfs hcells hslots hdg (fun q => by rw [hw2 q]; exact k q)
theorem s_callI {S : Type} (X : Cx p R s m args meth c G A nL cc Ts own ret) (d mc ms : Nat) {y : MethodName} {index maxL : Nat} {bytes : ByteArray} {ws2 ws3 nw : List Cond} {b : Nat} {eb : va_E} {wr : va_W} {W1 : S → va_W} (hM : Cn l G y ws2 d mc ms nw [.ref b] [(b, eb)] W1) (hG : GoodIn Ts ws2) (hws : ws2 = Cond.code y bytes maxL none :: ws3) (hini : Cond.initialized y.cls ∈ Ts) (hl : Cond.methodLink own index y ∈ Ts) (hinst : Cond.instanceMethod y ∈ Ts) (hy1 : y.name = "<init>") (hd : y.cls ≠ "java/lang/invoke/MethodHandle" ∧ y.cls ≠ "java/lang/invoke/VarHandle" ∧ (parseMethodDescriptor y.desc).map (fun d => d.parameters.length) = some 0) (hR : (rmN d mc ms).frames + 1 ≤ R.frames ∧ 8 + (maxL + 11) + (rmN d mc ms).locals ≤ R.locals) (hon : ∀ z ∈ nw, z.onTables = true) (hnw : ∀ U : State, s.WarmedH U.vm → NWs nw U) (hro : (st.map fun v => v.category).sum ≤ 8) (hcl : cells + mc ≤ R.cells) (hsl : slots + ms ≤ R.slots) (hdg : decode cc pc = .ok (.invokespecial index, 3)) (k : ∀ u : S, Sm p l e R s m args below meth c G A nL (cells + mc) (slots + ms) Q (pc + 3) lv st (wr ++ W1 u)) : Sm p l e R s m args below meth c G A nL cells slots Q pc lv (.ref b :: st) (wr ++ [(b, eb)]) := by
  intro H locs ls hP hD hS hl'
  have hp : (wr ++ [(b, eb)]).Perm ([(b, eb)] ++ wr) := List.perm_append_comm
  have hP0 : va_P G.1 vwCl [(b, eb)] H := P_mem.mpr fun q hq => P_mem.mp hP q (List.mem_append_right _ hq)
  have hD0 : va_D A [(b, eb)] := fr_D hp hD
  have hFc : ∀ q, va_A [(b, eb)] H.size q → A q := fun q h => by
    rcases A_mem.mp h with h | h
    · obtain ⟨z, hz, rfl⟩ := List.mem_map.mp h
      exact (D_mem.mp hD).2 z (List.mem_append_right _ hz)
    · exact X.hA q (Nat.le_trans hS.1 h)
  refine va_callv (va_runI (As := []) (rest := st) ⟨X.hx, X.hb, X.hml, X.hown, X.hts⟩ (hM H.size) (cwI 0 X.hts hG hws rfl rfl (X.hts _ hini) (X.hts _ hl) (X.hts _ hinst) hy1 hd hR) ⟨pcn_blind hon, fun U hU hW => ⟨rfl, by rw [hU], by rw [hU]; exact hP0, va_K.moved hW.alike X.hK, hD0.weaken (fun _ _ _ _ => trivial), hnw U hW⟩⟩ rfl rfl hl'.1 rfl (lv_room hro) hdg ⟨hcl, hsl⟩) hS (fun q _ h => hFc q h) hFc (fun u t H1 locs1 ht hvm hw hB hz1 hk1 hS1 => ?_)
  obtain ⟨hP1, hK1, hD1⟩ := hB
  rw [ht] at hP1
  have hj := mk_join hP hD hP1 hD1 hk1 hFc
  exact k u H1 locs1 ls hj.1 hj.2 hS1 hl'
theorem s_callIN {S : Type} (X : Cx p R s m args meth c G A nL cc Ts own ret) (d mc ms : Nat) {y : MethodName} {index maxL : Nat} {bytes : ByteArray} {ws2 ws3 nw : List Cond} {b : Nat} {eb : va_E} {wr : va_W} {W1 : S → va_W} (hM : Cn l G y ws2 d mc ms nw [.ref b] [(b, eb)] W1) (hG : GoodIn Ts ws2) (hws : ws2 = Cond.code y bytes maxL none :: ws3) (hini : Cond.initialized y.cls ∈ Ts) {host : String} (hl : va_Nw (.methodLinkNest own index y host) s) (hinst : Cond.instanceMethod y ∈ Ts) (hy1 : y.name = "<init>") (hd : y.cls ≠ "java/lang/invoke/MethodHandle" ∧ y.cls ≠ "java/lang/invoke/VarHandle" ∧ (parseMethodDescriptor y.desc).map (fun d => d.parameters.length) = some 0) (hR : (rmN d mc ms).frames + 1 ≤ R.frames ∧ 8 + (maxL + 11) + (rmN d mc ms).locals ≤ R.locals) (hon : ∀ z ∈ nw, z.onTables = true) (hnw : ∀ U : State, s.WarmedH U.vm → NWs nw U) (hro : (st.map fun v => v.category).sum ≤ 8) (hcl : cells + mc ≤ R.cells) (hsl : slots + ms ≤ R.slots) (hdg : decode cc pc = .ok (.invokespecial index, 3)) (k : ∀ u : S, Sm p l e R s m args below meth c G A nL (cells + mc) (slots + ms) Q (pc + 3) lv st (wr ++ W1 u)) : Sm p l e R s m args below meth c G A nL cells slots Q pc lv (.ref b :: st) (wr ++ [(b, eb)]) := by
  intro H locs ls hP hD hS hl'
  have hp : (wr ++ [(b, eb)]).Perm ([(b, eb)] ++ wr) := List.perm_append_comm
  have hP0 : va_P G.1 vwCl [(b, eb)] H := P_mem.mpr fun q hq => P_mem.mp hP q (List.mem_append_right _ hq)
  have hD0 : va_D A [(b, eb)] := fr_D hp hD
  have hFc : ∀ q, va_A [(b, eb)] H.size q → A q := fun q h => by
    rcases A_mem.mp h with h | h
    · obtain ⟨z, hz, rfl⟩ := List.mem_map.mp h
      exact (D_mem.mp hD).2 z (List.mem_append_right _ hz)
    · exact X.hA q (Nat.le_trans hS.1 h)
  refine va_callv (va_runIN (As := []) (rest := st) ⟨X.hx, X.hb, X.hml, X.hown, X.hts⟩ (hM H.size) ⟨va_cnB 0 X.hts hG hws rfl rfl hl (X.hts _ hini) hd hR, hy1, X.hts _ hinst⟩ ⟨pcn_blind hon, fun U hU hW => ⟨rfl, by rw [hU], by rw [hU]; exact hP0, va_K.moved hW.alike X.hK, hD0.weaken (fun _ _ _ _ => trivial), hnw U hW⟩⟩ rfl rfl hl'.1 rfl (lv_room hro) hdg ⟨hcl, hsl⟩) hS (fun q _ h => hFc q h) hFc (fun u t H1 locs1 ht hvm hw hB hz1 hk1 hS1 => ?_)
  obtain ⟨hP1, hK1, hD1⟩ := hB
  rw [ht] at hP1
  have hj := mk_join hP hD hP1 hD1 hk1 hFc
  exact k u H1 locs1 ls hj.1 hj.2 hS1 hl'
theorem s_callI2 {S : Type} (X : Cx p R s m args meth c G A nL cc Ts own ret) {w2 : S → va_W} {b : Nat} {eb : va_E} {wr : va_W} (d mc ms : Nat) {y : MethodName} {index maxL : Nat} {bytes : ByteArray} {ws2 ws3 nw : List Cond} {W1 : S → va_W} (hM : Cn l G y ws2 d mc ms nw [.ref b] [(b, eb)] W1) (hG : GoodIn Ts ws2) (hws : ws2 = Cond.code y bytes maxL none :: ws3) (hini : Cond.initialized y.cls ∈ Ts) (hl : Cond.methodLink own index y ∈ Ts) (hinst : Cond.instanceMethod y ∈ Ts) (hy1 : y.name = "<init>") (hd : y.cls ≠ "java/lang/invoke/MethodHandle" ∧ y.cls ≠ "java/lang/invoke/VarHandle" ∧ (parseMethodDescriptor y.desc).map (fun d => d.parameters.length) = some 0) (hR : (rmN d mc ms).frames + 1 ≤ R.frames ∧ 8 + (maxL + 11) + (rmN d mc ms).locals ≤ R.locals) (hon : ∀ z ∈ nw, z.onTables = true) (hnw : ∀ U : State, s.WarmedH U.vm → NWs nw U) (hro : (st.map fun v => v.category).sum ≤ 8) (hcl : cells + mc ≤ R.cells) (hsl : slots + ms ≤ R.slots) (hdg : decode cc pc = .ok (.invokespecial index, 3)) (hw0 : wr ++ [(b, eb)] = w) (hw2 : ∀ u : S, wr ++ W1 u = w2 u) (k : ∀ u : S, Sm p l e R s m args below meth c G A nL (cells + mc) (slots + ms) Q (pc + 3) lv st (w2 u)) : Sm p l e R s m args below meth c G A nL cells slots Q pc lv (.ref b :: st) w := by
  subst hw0
  exact s_callI X d mc ms hM hG hws hini hl hinst hy1 hd hR hon hnw hro hcl hsl hdg (fun u => by rw [hw2 u]; exact k u)
theorem s_callIN2 {S : Type} (X : Cx p R s m args meth c G A nL cc Ts own ret) {w2 : S → va_W} {b : Nat} {eb : va_E} {wr : va_W} (d mc ms : Nat) {y : MethodName} {index maxL : Nat} {bytes : ByteArray} {ws2 ws3 nw : List Cond} {W1 : S → va_W} (hM : Cn l G y ws2 d mc ms nw [.ref b] [(b, eb)] W1) (hG : GoodIn Ts ws2) (hws : ws2 = Cond.code y bytes maxL none :: ws3) (hini : Cond.initialized y.cls ∈ Ts) {host : String} (hl : va_Nw (.methodLinkNest own index y host) s) (hinst : Cond.instanceMethod y ∈ Ts) (hy1 : y.name = "<init>") (hd : y.cls ≠ "java/lang/invoke/MethodHandle" ∧ y.cls ≠ "java/lang/invoke/VarHandle" ∧ (parseMethodDescriptor y.desc).map (fun d => d.parameters.length) = some 0) (hR : (rmN d mc ms).frames + 1 ≤ R.frames ∧ 8 + (maxL + 11) + (rmN d mc ms).locals ≤ R.locals) (hon : ∀ z ∈ nw, z.onTables = true) (hnw : ∀ U : State, s.WarmedH U.vm → NWs nw U) (hro : (st.map fun v => v.category).sum ≤ 8) (hcl : cells + mc ≤ R.cells) (hsl : slots + ms ≤ R.slots) (hdg : decode cc pc = .ok (.invokespecial index, 3)) (hw0 : wr ++ [(b, eb)] = w) (hw2 : ∀ u : S, wr ++ W1 u = w2 u) (k : ∀ u : S, Sm p l e R s m args below meth c G A nL (cells + mc) (slots + ms) Q (pc + 3) lv st (w2 u)) : Sm p l e R s m args below meth c G A nL cells slots Q pc lv (.ref b :: st) w := by
  subst hw0
  exact s_callIN X d mc ms hM hG hws hini hl hinst hy1 hd hR hon hnw hro hcl hsl hdg (fun u => by rw [hw2 u]; exact k u)
end MKROWS
