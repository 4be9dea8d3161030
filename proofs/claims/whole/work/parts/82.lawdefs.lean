def R_law : String := "BathingCourtLaw"
def lw_P (b : Addr) (xs : List Int32) (args : Array Value) (s : State) : Prop := args = #[.ref b] ∧ s.IntsAt b xs ∧ xs.length ≤ 320 ∧ (Jvm.Cond.and given_1 narrow_1).before args s = true
def lw_Q (_ : Array Value) (s : State) (o : Outcome) (t : State) : Prop := o = .returned (some (.int 1)) ∧ Framed s o t [] 600000 7302250
def lw_Z (below : List Frame) (a : Array Value) (s : State) : State → Prop := fun t => ∃ o, t.status = .running ∧ Ended t below o ∧ lw_Q a s o t
/-- the law's own end, with 1 on the stack, nothing written that was there before, its room as the claim has it -/
theorem lw_ret {p : Program} {l : Launch} {e : Env} {s : State} {m : MethodId} {below : List Frame} {meth : Method} {c : Code} {b : Nat} (hx : p.tables.exec = Jvm.exec) (hb : c.code = code) (hr : meth.sig.returnType = ret) (hlocks : meth.locks = false) {pc : Nat} {H : Heap} {ls : Array Slot} (hdg : decode code pc = .ok (.ireturn, 1)) : W p l e room_1 s m #[Value.ref b] below meth c H [] 600000 7302250 (lw_Z below #[Value.ref b] s) (F0 m pc ls [.int 1]) := by
  intro T hT X
  obtain ⟨fs, hret, hrun, hended, hW, hframe⟩ := X.leave (v := some (.int 1)) (hlocks := hlocks) (fun h => by rw [hr] at h; cases h)
  have hmeth' : T.vm.method? m = some meth := X.method'
  refine ⟨T.setFrames fs, ?_, .returned (some (.int 1)), hrun, hended, rfl, ⟨_, rfl⟩, hW, hframe⟩
  jvm_step X.here [X.here.top, hx, hb, hdg, hmeth', hr, ret, narrow_b1]
  (try refine ⟨rfl, ?_⟩); (try refine ⟨rfl, ?_⟩)
  first | (intro acts; rw [hret _ acts rfl rfl rfl]) | rw [hret _ _ rfl rfl rfl]
  exact Steps.refl _
/-- what holds at the law's entry: the machine, the code, the tables' words (any of lw_tbl by 'hts w (by decide +kernel)'), the script of L ints xs at the cell b, what the Statement gives of the start (any of its parts by flat_of_before) -/
def lw_At (p : Program) (s : State) (m : MethodId) (meth : Method) (c : Code) (b L : Nat) (xs : Nat → Int32) : Prop :=
  p.tables.exec = Jvm.exec ∧ c.code = code ∧ meth.sig.returnType = ret ∧ c.maxLocals = 4 ∧ s.vm.findClass R_law = some m.cls ∧ (∀ w ∈ lw_tbl, w.before #[Value.ref b] s = true) ∧ va_X b L xs s s.heap ∧ b < s.heap.size ∧ meth.locks = false ∧ (Jvm.Cond.and given_1 narrow_1).before #[Value.ref b] s = true

abbrev Rel (rd0 : Nat → Int32) (rd1 rd2 rd3 rd4 : Int32) (dy0 dy1 dy2 dy3 dy4 : Nat → Int32) (dy5 : Int32) (pa0 : Nat → Int32) (pa1 pa2 : Int32) (im0 im1 im2 pl0 pl1 pl2 pl3 pl4 pl5 : Nat → Int32) (pl6 pl7 pl8 : Int32) (er0 er1 : Nat → Int32) (er2 : Int32) (bk0 bk1 : Nat → Int32) (bk2 dr0 : Int32) (sh0 sh1 sh2 sh3 sh4 sh5 : Nat → Int32) (sh6 sh7 sh8 : Int32) (sp0 sp1 sp2 sp3 sp4 sp5 : Nat → Int32) (sp6 sp7 sp8 a0 : Int32) (a1 : Nat → Int32) (a2 : Int32) (a3 : Nat → Int32) (a4 : Int32) (a5 a6 a7 a8 a9 : Nat → Int32) (a10 : Int32) (a11 : Nat → Int32) (a12 a13 a14 a15 a16 a17 : Int32) (a18 : Nat → Int32) (a19 : Int32) (a20 : Nat → Int32) (a21 : Int32) (a22 a23 a24 a25 : Nat → Int32) (a26 : Int32) (a27 a28 a29 a30 : Nat → Int32) (a31 : Int32) (a32 a33 : Nat → Int32) (a34 : Int32) (a35 a36 a37 a38 : Nat → Int32) : Prop := RT rd0 rd2 a11 a12 ∧ rd4 = a13 ∧ RB sh0 sh1 sh2 sh3 sh4 sh5 sh6 sh7 sh8 a0 a1 a2 a3 a4 a5 a6 a7 a8 ∧ RD dy0 dy1 dy2 dy3 dy4 dy5 a9 ∧ DI a2.toNatClampNeg a4.toNatClampNeg 9060 a9 ∧ RP a2.toNatClampNeg a4.toNatClampNeg pa0 pa1 pa2 a26 a27 ∧ RI a2.toNatClampNeg a4.toNatClampNeg im0 im1 im2 a37 a38 ∧ RE er0 er1 er2 a31 a32 a33 ∧ RK a4.toNatClampNeg bk0 bk1 bk2 a34 a35 a36 ∧ dr0 = a10 ∧ 0 ≤ a10

theorem s_sld {p : Program} {l : Launch} {e : Env} {R : Room} {s : State} {m : MethodId} {args : Array Value} {below : List Frame} {meth : Method} {c : Code} {G : GT} {nL cells slots : Nat} {Q : State → Prop} {cc : ByteArray} {Ts : List Cond} {own : String} {ret : Option FieldType} {pc : Nat} {lv : LV} {st : List Value} {w : va_W} {b L : Nat} {xs : Nat → Int32} (X : Cx p R s m args meth c G (fun q : Nat => s.heap.size ≤ q) nL cc Ts own ret) (hX : va_X b L xs s s.heap) (hbl : b < s.heap.size) {i : Int32} (hin : vp_in i L) (hdg : decode cc pc = .ok (.iaload, 1)) (k : Sm p l e R s m args below meth c G (fun q : Nat => s.heap.size ≤ q) nL cells slots Q (pc + 1) lv (.int (xs i.toNatClampNeg) :: st) w) : Sm p l e R s m args below meth c G (fun q : Nat => s.heap.size ≤ q) nL cells slots Q pc lv (.int i :: .ref b :: st) w :=
  fun H locs ls hP hD hS hl => va_sld X.hx X.hb hX hbl (Nat.not_le.mpr hbl) hS hin hdg (k H locs ls hP hD hS hl)
theorem s_slen {p : Program} {l : Launch} {e : Env} {R : Room} {s : State} {m : MethodId} {args : Array Value} {below : List Frame} {meth : Method} {c : Code} {G : GT} {nL cells slots : Nat} {Q : State → Prop} {cc : ByteArray} {Ts : List Cond} {own : String} {ret : Option FieldType} {pc : Nat} {lv : LV} {st : List Value} {w : va_W} {b L : Nat} {xs : Nat → Int32} (X : Cx p R s m args meth c G (fun q : Nat => s.heap.size ≤ q) nL cc Ts own ret) (hX : va_X b L xs s s.heap) (hbl : b < s.heap.size) (hdg : decode cc pc = .ok (.arraylength, 1)) (k : Sm p l e R s m args below meth c G (fun q : Nat => s.heap.size ≤ q) nL cells slots Q (pc + 1) lv (.int (Int32.ofNat L) :: st) w) : Sm p l e R s m args below meth c G (fun q : Nat => s.heap.size ≤ q) nL cells slots Q pc lv (.ref b :: st) w :=
  fun H locs ls hP hD hS hl => va_slen X.hx X.hb hX hbl (Nat.not_le.mpr hbl) hS hdg (k H locs ls hP hD hS hl)
theorem fr_mapP {w0 w1 rest w w2 : va_W} (hp : w.Perm (w0 ++ rest)) (hp2 : w2.Perm (w1 ++ rest)) (hf : (w1.map Prod.fst).Perm (w0.map Prod.fst)) : (w2.map Prod.fst).Perm (w.map Prod.fst) := by
  have h1 := hp2.map Prod.fst
  have h2 := hp.map Prod.fst
  rw [List.map_append] at h1 h2
  exact h1.trans ((List.Perm.append_right _ hf).trans h2.symm)
theorem ci_frP {l : Launch} {G : GT} {y : MethodName} {ws : List Cond} {rm : Room} {av : List Value} {w0 w1 rest w w2 : va_W} {r : Int32} (hp : w.Perm (w0 ++ rest)) (hp2 : w2.Perm (w1 ++ rest)) (hf : (w1.map Prod.fst).Perm (w0.map Prod.fst)) (hM : Ci l G y ws rm av w0 r w1) : Ci l G y ws rm av w r w2 := by
  intro sz
  refine MetFree.mono (hM sz) ?_ (fun _ _ _ _ _ h => h) ?_
  · rintro a s ⟨ha, hz, hP, hK, hD⟩
    exact ⟨ha, hz, P_mem.mpr fun q hq => P_mem.mp hP q (hp.mem_iff.mpr (List.mem_append_left _ hq)), hK, fr_D hp hD⟩
  · rintro a s o t ⟨ha, hz, hP, hK, hD⟩ ⟨⟨⟨r', u, ho, hr, hP1, hK1, hD1⟩, hF⟩, L, hL, hfree⟩
    subst hz
    have hm := fr_mapP hp hp2 hf
    exact ⟨⟨⟨r', u, ho, hr, fr_P hp hp2 hP hD hP1 (fun q hq hA => hF.2 q hq hA), hK1, D_mem.mpr ⟨hm.symm.nodup (D_mem.mp hD).1, fun q hq => A_mem.mpr (Or.inl (hm.mem_iff.mp (List.mem_map.mpr ⟨q, hq, rfl⟩)))⟩⟩, hF.1, fun q hq hA => hF.2 q hq (fun h => hA (fr_A hp h))⟩, L, hL, fun q hq => fr_A hp (hfree q hq)⟩
theorem ix5 {k j L : Nat} {x : Int32} (hx : x = nI j) (hj : j < 5) (hk : k + 5 ≤ L) (hL : L ≤ 320) : vp_in (nI k + x) L := by
  rw [hx, nI_add]
  exact vp_in_nI (by omega) (by omega)
theorem DI_NI {hu ca : Nat} {b : Int} {f : Nat → Int32} (hc : ca ≤ 5) (h : DI hu ca b f) : NI b f := by
  refine ⟨h.1.1, h.1.2, fun j hj => ?_⟩
  rcases h.2.2.1 j hj with q | ⟨c, h1, h2, -⟩
  · rw [q]; decide
  · rw [h2]; exact nI_lt (b := 5) (by omega) (by decide)

theorem hL_of {sh0 sh1 sh2 sh3 sh4 sh5 a1 a3 a5 a6 a7 a8 : Nat → Int32} {sh6 sh7 sh8 a0 a2 a4 : Int32} (hB : RB sh0 sh1 sh2 sh3 sh4 sh5 sh6 sh7 sh8 a0 a1 a2 a3 a4 a5 a6 a7 a8) {j : Nat} (h5 : j < 5) (hj : ¬ rX0_hasCase sh8 (nI j) = 0) : 1 ≤ sh3 j ∧ sh3 j ≤ 4 := by
  rw [hB.1.2.2] at hj
  have k := case_ok hB.2.2.2.1.2 hj
  have k2 := k.2.1
  rw [kc j (by omega)] at k2
  have z := (hB.2.2.2.2.2.2.2.2 j k2).2.1
  rw [z.1]
  exact z.2
theorem sw_perm {G : GT} {AD : Nat → Nat → Nat} {c8 c9 d8 d9 : Nat} {rd0 : Nat → Int32} {rd1 rd2 rd3 rd4 : Int32} {dy0 dy1 dy2 dy3 dy4 : Nat → Int32} {dy5 : Int32} {pa0 : Nat → Int32} {pa1 pa2 : Int32} {im0 im1 im2 pl0 pl1 pl2 pl3 pl4 pl5 : Nat → Int32} {pl6 pl7 pl8 : Int32} {er0 er1 : Nat → Int32} {er2 : Int32} {bk0 bk1 : Nat → Int32} {bk2 dr0 : Int32} {sh0 sh1 sh2 sh3 sh4 sh5 : Nat → Int32} {sh6 sh7 sh8 : Int32} {sp0 sp1 sp2 sp3 sp4 sp5 : Nat → Int32} {sp6 sp7 sp8 : Int32} {rd0_ : Nat → Int32} {rd1_ rd2_ rd3_ rd4_ : Int32} {dy0_ dy1_ dy2_ dy3_ dy4_ : Nat → Int32} {dy5_ : Int32} {pa0_ : Nat → Int32} {pa1_ pa2_ : Int32} {im0_ im1_ im2_ pl0_ pl1_ pl2_ pl3_ pl4_ pl5_ : Nat → Int32} {pl6_ pl7_ pl8_ : Int32} {er0_ er1_ : Nat → Int32} {er2_ : Int32} {bk0_ bk1_ : Nat → Int32} {bk2_ dr0_ : Int32} {sh0_ sh1_ sh2_ sh3_ sh4_ sh5_ : Nat → Int32} {sh6_ sh7_ sh8_ : Int32} {sp0_ sp1_ sp2_ sp3_ sp4_ sp5_ : Nat → Int32} {sp6_ sp7_ sp8_ : Int32} : ((wC G (swp AD) d8 d9 rd0_ rd1_ rd2_ rd3_ rd4_ dy0_ dy1_ dy2_ dy3_ dy4_ dy5_ pa0_ pa1_ pa2_ im0_ im1_ im2_ pl0_ pl1_ pl2_ pl3_ pl4_ pl5_ pl6_ pl7_ pl8_ er0_ er1_ er2_ bk0_ bk1_ bk2_ dr0_ sh0_ sh1_ sh2_ sh3_ sh4_ sh5_ sh6_ sh7_ sh8_ sp0_ sp1_ sp2_ sp3_ sp4_ sp5_ sp6_ sp7_ sp8_).map Prod.fst).Perm ((wC G AD c8 c9 rd0 rd1 rd2 rd3 rd4 dy0 dy1 dy2 dy3 dy4 dy5 pa0 pa1 pa2 im0 im1 im2 pl0 pl1 pl2 pl3 pl4 pl5 pl6 pl7 pl8 er0 er1 er2 bk0 bk1 bk2 dr0 sh0 sh1 sh2 sh3 sh4 sh5 sh6 sh7 sh8 sp0 sp1 sp2 sp3 sp4 sp5 sp6 sp7 sp8).map Prod.fst) :=
  List.Perm.append_left [AD 10 0, AD 0 0, AD 0 1, AD 1 0, AD 1 1, AD 1 2, AD 1 3, AD 1 4, AD 1 5, AD 2 0, AD 2 1, AD 3 0, AD 3 1, AD 3 2, AD 3 3, AD 4 0, AD 4 1, AD 4 2, AD 4 3, AD 4 4, AD 4 5, AD 4 6, AD 5 0, AD 5 1, AD 5 2, AD 6 0, AD 6 1, AD 6 2, AD 7 0] (List.perm_append_comm (l₁ := [AD 9 0, AD 9 1, AD 9 2, AD 9 3, AD 9 4, AD 9 5, AD 9 6]) (l₂ := [AD 8 0, AD 8 1, AD 8 2, AD 8 3, AD 8 4, AD 8 5, AD 8 6]))
