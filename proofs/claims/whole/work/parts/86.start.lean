theorem kL_inX0 : Cond.instantiable RX0 9 ∈ wsL_law := List.mem_of_getElem? (i := 45) rfl
theorem kL_inX1 : Cond.instantiable RX1 3 ∈ wsL_law := List.mem_of_getElem? (i := 37) rfl
theorem kL_inX2 : Cond.instantiable RX2 6 ∈ wsL_law := List.mem_of_getElem? (i := 17) rfl
theorem kL_inX3 : Cond.instantiable RX3 1 ∈ wsL_law := List.mem_of_getElem? (i := 41) rfl
theorem kL_inX4 : Cond.instantiable RX4 3 ∈ wsL_law := List.mem_of_getElem? (i := 33) rfl
theorem kL_inX5 : Cond.instantiable RX5 3 ∈ wsL_law := List.mem_of_getElem? (i := 25) rfl
theorem kL_inX6 : Cond.instantiable RX6 3 ∈ wsL_law := List.mem_of_getElem? (i := 21) rfl
theorem kL_inX7 : Cond.instantiable RX7 9 ∈ wsL_law := List.mem_of_getElem? (i := 29) rfl
theorem kL_inX8 : Cond.instantiable RX8 5 ∈ wsL_law := List.mem_of_getElem? (i := 13) rfl
theorem kL_inX9 : Cond.instantiable RX9 10 ∈ wsL_law := List.mem_of_getElem? (i := 1) rfl
theorem kL_inX10 : Cond.instantiable RX10 39 ∈ wsL_law := List.mem_of_getElem? (i := 4) rfl
theorem kL_clX9 : Cond.classLink RL 7 RX9 ∈ wsL_law := List.mem_of_getElem? (i := 0) rfl
theorem kL_itX9 : Cond.initialized RX9 ∈ wsL_law := List.mem_of_getElem? (i := 2) rfl
theorem kL_mlX9 : Cond.methodLink RL 9 yX9_init ∈ wsL_law := List.mem_of_getElem? (i := 6) rfl
theorem kL_imX9 : Cond.instanceMethod yX9_init ∈ wsL_law := List.mem_of_getElem? (i := 7) rfl
theorem kL_clX10 : Cond.classLink RL 10 RX10 ∈ wsL_law := List.mem_of_getElem? (i := 3) rfl
theorem kL_itX10 : Cond.initialized RX10 ∈ wsL_law := List.mem_of_getElem? (i := 5) rfl
theorem kL_mlX10 : Cond.methodLink RL 12 yX10_init ∈ wsL_law := List.mem_of_getElem? (i := 111) rfl
theorem kL_imX10 : Cond.instanceMethod yX10_init ∈ wsL_law := List.mem_of_getElem? (i := 112) rfl
theorem kL_ai : Cond.arrayClass .int ∈ wsL_law := List.mem_of_getElem? (i := 52) rfl
theorem kL_az : Cond.arrayClass .boolean ∈ wsL_law := List.mem_of_getElem? (i := 77) rfl
def gC (c0 c1 c2 c3 c4 c5 c6 c7 c8 c9 c10 : ClassId) : Nat → ClassId
  | 0 => c0
  | 1 => c1
  | 2 => c2
  | 3 => c3
  | 4 => c4
  | 5 => c5
  | 6 => c6
  | 7 => c7
  | 8 => c8
  | 9 => c9
  | _ => c10
def gI (i0 i1 i2 i3 i4 i5 i6 i7 i8 i9 i10 : Nat → Nat) : Nat → Nat → Nat
  | 0 => i0
  | 1 => i1
  | 2 => i2
  | 3 => i3
  | 4 => i4
  | 5 => i5
  | 6 => i6
  | 7 => i7
  | 8 => i8
  | 9 => i9
  | _ => i10
set_option maxRecDepth 20000 in
theorem nwX9_on : ∀ z ∈ nwX9, z.onTables = true := by decide +kernel
set_option maxRecDepth 20000 in
theorem nwX9_in : ∀ z ∈ nwX9, z ∈ lw_tbl := by decide +kernel
theorem nwX9_s {A : Array Value} {s : State} (hts : ∀ w ∈ lw_tbl, w.before A s = true) : ∀ U : State, s.WarmedH U.vm → NWs nwX9 U := by
  intro U hW z hz
  have h0 := va_Nw.of (nwX9_on z hz) (hts z (nwX9_in z hz))
  unfold nwX9 at hz
  rcases List.mem_cons.mp hz with rfl | hz
  · exact va_Nw.warmM hW h0
  rcases List.mem_cons.mp hz with rfl | hz
  · exact va_Nw.warmM hW h0
  rcases List.mem_cons.mp hz with rfl | hz
  · exact va_Nw.warmM hW h0
  rcases List.mem_cons.mp hz with rfl | hz
  · exact va_Nw.warmM hW h0
  rcases List.mem_cons.mp hz with rfl | hz
  · exact va_Nw.warmM hW h0
  rcases List.mem_cons.mp hz with rfl | hz
  · exact va_Nw.warmM hW h0
  rcases List.mem_cons.mp hz with rfl | hz
  · exact va_Nw.warmM hW h0
  rcases List.mem_cons.mp hz with rfl | hz
  · exact va_Nw.warmM hW h0
  exact absurd hz List.not_mem_nil
theorem now_row : ∀ k : Nat, k < 23 → aX10_init_191 4 k = nrow k := by decide
theorem rel0 : Rel (fun _ => 0) (0 : Int32) (0 : Int32) (0 : Int32) (-1 : Int32) (fun _ => 0) (sJ7_fill_53178_free_a 4 (fun _ => 0) (-1 : Int32)) (fun _ => 0) (fun _ => 0) (fun _ => 0) (0 : Int32) (fun _ => 0) (0 : Int32) (0 : Int32) (fun _ => 0) (fun _ => 0) (fun _ => 0) (fun _ => 0) (fun _ => 0) (fun _ => 0) (fun _ => 0) (fun _ => 0) (fun _ => 0) (0 : Int32) (0 : Int32) (13 : Int32) (fun _ => 0) (fun _ => 0) (0 : Int32) (fun _ => 0) (fun _ => 0) (0 : Int32) (0 : Int32) (fun _ => 0) (fun _ => 0) (fun _ => 0) (fun _ => 0) (fun _ => 0) (fun _ => 0) (0 : Int32) (0 : Int32) (0 : Int32) (fun _ => 0) (fun _ => 0) (fun _ => 0) (fun _ => 0) (fun _ => 0) (fun _ => 0) (0 : Int32) (0 : Int32) (0 : Int32) (0 : Int32) (fun _ => 0) (0 : Int32) (fun _ => 0) (0 : Int32) (fun _ => 0) (fun _ => 0) (fun _ => 0) (fun _ => 0) (aX10_init_191 4) (0 : Int32) (fun _ => 0) (0 : Int32) (-1 : Int32) (0 : Int32) (0 : Int32) (0 : Int32) (0 : Int32) (fun _ => 0) (0 : Int32) (fun _ => 0) (0 : Int32) (fun _ => 0) (fun _ => 0) (fun _ => 0) (fun _ => 0) (0 : Int32) (fun _ => 0) (fun _ => 0) (fun _ => 0) (fun _ => 0) (0 : Int32) (fun _ => 0) (fun _ => 0) (0 : Int32) (fun _ => 0) (fun _ => 0) (fun _ => 0) (fun _ => 0) :=
  ⟨⟨rfl, by decide, by decide, fun j hj => absurd hj (Nat.not_lt_zero _)⟩, rfl, ⟨⟨rfl, rfl, rfl⟩, by decide, by decide, by decide, fun h => h, fun h => h, fun j hj => absurd hj (Nat.not_lt_zero _), fun j hj => absurd hj (Nat.not_lt_zero _), fun j hj => absurd hj (Nat.not_lt_zero _)⟩, RD_new (fun _ _ => rfl) (fun j hj => fill_in (by decide) hj) (fun _ _ => rfl) (fun _ _ => rfl) (fun _ _ => rfl) rfl now_row, DI_new now_row, ⟨rfl, by decide, by decide, by decide, by decide, fun j hj => absurd hj (Nat.not_lt_zero _)⟩, fun i hi => ⟨rfl, Or.inl rfl, fun h => absurd (show (0 : Int32) = 1 from h) (by decide)⟩, ⟨rfl, by decide, by decide, fun j hj => absurd hj (Nat.not_lt_zero _)⟩, ⟨rfl, by decide, by decide, fun j hj => absurd hj (Nat.not_lt_zero _)⟩, rfl, by decide⟩
set_option maxRecDepth 100000 in
set_option maxHeartbeats 4000000 in
theorem whole_start {p : Program} {e : Env} {s : State} {m : MethodId} {below : List Frame} {meth : Method} {c : Code} (l : Launch) (hflags : l.flags = flags0) {b L : Nat} {xs : Nat → Int32} (hL : L ≤ 320) (C0 : lw_At p s m meth c b L xs) : W p l e room_1 s m #[Value.ref b] below meth c s.heap [] 0 0 (lw_Z below #[Value.ref b] s) (entryFrame m ([Value.ref b] : List Value).toArray 4) := by
  obtain ⟨hx, hb, hr, hml, hown, hts, hX, hbl, hlk, -⟩ := C0
  have htl : ∀ w ∈ wsL_law, w.before #[Value.ref b] s = true := fun w hw => hts w (wsL_law_in w hw)
  obtain ⟨c0, i0, k0⟩ := u_known htl inlX0 (htl _ kL_inX0)
  obtain ⟨c1, i1, k1⟩ := u_known htl inlX1 (htl _ kL_inX1)
  obtain ⟨c2, i2, k2⟩ := u_known htl inlX2 (htl _ kL_inX2)
  obtain ⟨c3, i3, k3⟩ := u_known htl inlX3 (htl _ kL_inX3)
  obtain ⟨c4, i4, k4⟩ := u_known htl inlX4 (htl _ kL_inX4)
  obtain ⟨c5, i5, k5⟩ := u_known htl inlX5 (htl _ kL_inX5)
  obtain ⟨c6, i6, k6⟩ := u_known htl inlX6 (htl _ kL_inX6)
  obtain ⟨c7, i7, k7⟩ := u_known htl inlX7 (htl _ kL_inX7)
  obtain ⟨c8, i8, k8⟩ := u_known htl inlX8 (htl _ kL_inX8)
  obtain ⟨c9, i9, k9⟩ := u_known htl inlX9 (htl _ kL_inX9)
  obtain ⟨c10, i10, k10⟩ := u_known htl inlX10 (htl _ kL_inX10)
  obtain ⟨cI, kI, compI, g1, g2, g3⟩ := Cond.arrayClass_spec (htl _ kL_ai)
  obtain ⟨cZ, kZ, compZ, g4, g5, g6⟩ := Cond.arrayClass_spec (htl _ kL_az)
  obtain ⟨G, hG⟩ : ∃ G : GT, G = ((gC c0 c1 c2 c3 c4 c5 c6 c7 c8 c9 c10, gI i0 i1 i2 i3 i4 i5 i6 i7 i8 i9 i10), cI, cZ) := ⟨_, rfl⟩
  have hK : va_K G.1 vwCl (tyK G) s := by
    rw [hG]
    refine ⟨fun i q h => ?_, fun i q h => ?_⟩
    · match i, h with
      | 0, h => exact (Option.some.inj h) ▸ k0
      | 1, h => exact (Option.some.inj h) ▸ k1
      | 2, h => exact (Option.some.inj h) ▸ k2
      | 3, h => exact (Option.some.inj h) ▸ k3
      | 4, h => exact (Option.some.inj h) ▸ k4
      | 5, h => exact (Option.some.inj h) ▸ k5
      | 6, h => exact (Option.some.inj h) ▸ k6
      | 7, h => exact (Option.some.inj h) ▸ k7
      | 8, h => exact (Option.some.inj h) ▸ k8
      | 9, h => exact (Option.some.inj h) ▸ k9
      | 10, h => exact (Option.some.inj h) ▸ k10
      | j + 11, h => exact absurd h (by simp [vwCl])
    · match i, h with
      | 0, h => exact (Option.some.inj h) ▸ ⟨fun n z => ⟨fun k h => (by cases h), kI, g2, compI, g3⟩, g1⟩
      | 1, h => exact (Option.some.inj h) ▸ ⟨fun n z => ⟨fun k h => (by cases h), kZ, g5, compZ, g6⟩, g4⟩
      | j + 2, h => exact absurd h (by simp [tyK])
  clear hG
  have X : Cx p room_1 s m #[Value.ref b] meth c G (fun q : Nat => s.heap.size ≤ q) 4 cL_law wsL_law RL (some .boolean) := ⟨hx, hb, hml, hown, htl, hK, fun q h => h, hlk, hr⟩
  have body : Sm p l e room_1 s m #[Value.ref b] below meth c G (fun q : Nat => s.heap.size ≤ q) 4 0 0 (lw_Z below #[Value.ref b] s) 0 [(0, .ref b)] [] [] := by
    refine s_newo2 X (pc := 0) (cells := 0) (slots := 0) (w2 := fun q0 => [(q0, .inr (9, [.null, .null, .null, .null, .null, .null, .null, .null, .null, .null]))]) (C := RX9) (T := TX9) (N := 10) (ci := 9) (fs := [.null, .null, .null, .null, .null, .null, .null, .null, .null, .null]) inlX9 tyX9 tyX9_ok kL_clX9 kL_inX9 kL_itX9 rfl (fun j hj => by rcases (show j = 0 ∨ j = 1 ∨ j = 2 ∨ j = 3 ∨ j = 4 ∨ j = 5 ∨ j = 6 ∨ j = 7 ∨ j = 8 ∨ j = 9 by omega) with rfl | rfl | rfl | rfl | rfl | rfl | rfl | rfl | rfl | rfl <;> rfl) (fun _ => rfl) (Nat.le_of_ble_eq_true rfl) (Nat.le_of_ble_eq_true rfl) dL_law_0 (fun q0 => ?_)
    refine s_dup X (pc := 3) dL_law_3 rfl ?_
    refine s_callI2 X (pc := 4) (cells := 1) (slots := 10) (w := [(q0, .inr (9, [.null, .null, .null, .null, .null, .null, .null, .null, .null, .null]))]) (w2 := fun AD => wC G (cAA q0 AD) (cAA q0 AD 8 0) (cAA q0 AD 9 0) (fun _ => 0) (0 : Int32) (0 : Int32) (0 : Int32) (-1 : Int32) (fun _ => 0) (sJ7_fill_53178_free_a 4 (fun _ => 0) (-1 : Int32)) (fun _ => 0) (fun _ => 0) (fun _ => 0) (0 : Int32) (fun _ => 0) (0 : Int32) (0 : Int32) (fun _ => 0) (fun _ => 0) (fun _ => 0) (fun _ => 0) (fun _ => 0) (fun _ => 0) (fun _ => 0) (fun _ => 0) (fun _ => 0) (0 : Int32) (0 : Int32) (13 : Int32) (fun _ => 0) (fun _ => 0) (0 : Int32) (fun _ => 0) (fun _ => 0) (0 : Int32) (0 : Int32) (fun _ => 0) (fun _ => 0) (fun _ => 0) (fun _ => 0) (fun _ => 0) (fun _ => 0) (0 : Int32) (0 : Int32) (0 : Int32) (fun _ => 0) (fun _ => 0) (fun _ => 0) (fun _ => 0) (fun _ => 0) (fun _ => 0) (0 : Int32) (0 : Int32) (0 : Int32)) (st := [.ref q0]) (wr := []) 2 42 974 (c_X9_init2 l G q0) gL_law_X9_init rfl kL_itX9 kL_mlX9 kL_imX9 rfl (by decide +kernel) ⟨(Nat.le_of_ble_eq_true rfl), (Nat.le_of_ble_eq_true rfl)⟩ nwX9_on (nwX9_s hts) (Nat.le_of_ble_eq_true rfl) (Nat.le_of_ble_eq_true rfl) (Nat.le_of_ble_eq_true rfl) dL_law_4 rfl (fun _ => rfl) (fun AD => ?_)
    refine s_astore_n X (pc := 7) (i := 1) (x := cAA q0 AD 10 0) (lv2 := [(1, .ref (cAA q0 AD 10 0)), (0, .ref b)]) dL_law_7 rfl (by decide) rfl ?_
    refine s_newo2 X (pc := 8) (cells := 43) (slots := 984) (w := wC G (cAA q0 AD) (cAA q0 AD 8 0) (cAA q0 AD 9 0) (fun _ => 0) (0 : Int32) (0 : Int32) (0 : Int32) (-1 : Int32) (fun _ => 0) (sJ7_fill_53178_free_a 4 (fun _ => 0) (-1 : Int32)) (fun _ => 0) (fun _ => 0) (fun _ => 0) (0 : Int32) (fun _ => 0) (0 : Int32) (0 : Int32) (fun _ => 0) (fun _ => 0) (fun _ => 0) (fun _ => 0) (fun _ => 0) (fun _ => 0) (fun _ => 0) (fun _ => 0) (fun _ => 0) (0 : Int32) (0 : Int32) (13 : Int32) (fun _ => 0) (fun _ => 0) (0 : Int32) (fun _ => 0) (fun _ => 0) (0 : Int32) (0 : Int32) (fun _ => 0) (fun _ => 0) (fun _ => 0) (fun _ => 0) (fun _ => 0) (fun _ => 0) (0 : Int32) (0 : Int32) (0 : Int32) (fun _ => 0) (fun _ => 0) (fun _ => 0) (fun _ => 0) (fun _ => 0) (fun _ => 0) (0 : Int32) (0 : Int32) (0 : Int32)) (w2 := fun q1 => (wC G (cAA q0 AD) (cAA q0 AD 8 0) (cAA q0 AD 9 0) (fun _ => 0) (0 : Int32) (0 : Int32) (0 : Int32) (-1 : Int32) (fun _ => 0) (sJ7_fill_53178_free_a 4 (fun _ => 0) (-1 : Int32)) (fun _ => 0) (fun _ => 0) (fun _ => 0) (0 : Int32) (fun _ => 0) (0 : Int32) (0 : Int32) (fun _ => 0) (fun _ => 0) (fun _ => 0) (fun _ => 0) (fun _ => 0) (fun _ => 0) (fun _ => 0) (fun _ => 0) (fun _ => 0) (0 : Int32) (0 : Int32) (13 : Int32) (fun _ => 0) (fun _ => 0) (0 : Int32) (fun _ => 0) (fun _ => 0) (0 : Int32) (0 : Int32) (fun _ => 0) (fun _ => 0) (fun _ => 0) (fun _ => 0) (fun _ => 0) (fun _ => 0) (0 : Int32) (0 : Int32) (0 : Int32) (fun _ => 0) (fun _ => 0) (fun _ => 0) (fun _ => 0) (fun _ => 0) (fun _ => 0) (0 : Int32) (0 : Int32) (0 : Int32)) ++ [(q1, .inr (10, [.int (0 : Int32), .null, .int (0 : Int32), .null, .int (0 : Int32), .null, .null, .null, .null, .null, .int (0 : Int32), .null, .int (0 : Int32), .int (0 : Int32), .int (0 : Int32), .int (0 : Int32), .int (0 : Int32), .int (0 : Int32), .null, .int (0 : Int32), .null, .int (0 : Int32), .null, .null, .null, .null, .int (0 : Int32), .null, .null, .null, .null, .int (0 : Int32), .null, .null, .int (0 : Int32), .null, .null, .null, .null]))]) (C := RX10) (T := TX10) (N := 39) (ci := 10) (fs := [.int (0 : Int32), .null, .int (0 : Int32), .null, .int (0 : Int32), .null, .null, .null, .null, .null, .int (0 : Int32), .null, .int (0 : Int32), .int (0 : Int32), .int (0 : Int32), .int (0 : Int32), .int (0 : Int32), .int (0 : Int32), .null, .int (0 : Int32), .null, .int (0 : Int32), .null, .null, .null, .null, .int (0 : Int32), .null, .null, .null, .null, .int (0 : Int32), .null, .null, .int (0 : Int32), .null, .null, .null, .null]) inlX10 tyX10 tyX10_ok kL_clX10 kL_inX10 kL_itX10 rfl (fun j hj => by rcases (show j = 0 ∨ j = 1 ∨ j = 2 ∨ j = 3 ∨ j = 4 ∨ j = 5 ∨ j = 6 ∨ j = 7 ∨ j = 8 ∨ j = 9 ∨ j = 10 ∨ j = 11 ∨ j = 12 ∨ j = 13 ∨ j = 14 ∨ j = 15 ∨ j = 16 ∨ j = 17 ∨ j = 18 ∨ j = 19 ∨ j = 20 ∨ j = 21 ∨ j = 22 ∨ j = 23 ∨ j = 24 ∨ j = 25 ∨ j = 26 ∨ j = 27 ∨ j = 28 ∨ j = 29 ∨ j = 30 ∨ j = 31 ∨ j = 32 ∨ j = 33 ∨ j = 34 ∨ j = 35 ∨ j = 36 ∨ j = 37 ∨ j = 38 by omega) with rfl | rfl | rfl | rfl | rfl | rfl | rfl | rfl | rfl | rfl | rfl | rfl | rfl | rfl | rfl | rfl | rfl | rfl | rfl | rfl | rfl | rfl | rfl | rfl | rfl | rfl | rfl | rfl | rfl | rfl | rfl | rfl | rfl | rfl | rfl | rfl | rfl | rfl | rfl <;> rfl) (fun _ => rfl) (Nat.le_of_ble_eq_true rfl) (Nat.le_of_ble_eq_true rfl) dL_law_8 (fun q1 => ?_)
    refine s_dup X (pc := 11) dL_law_11 rfl ?_
    refine s_callI2 X (pc := 12) (cells := 44) (slots := 1023) (w := (wC G (cAA q0 AD) (cAA q0 AD 8 0) (cAA q0 AD 9 0) (fun _ => 0) (0 : Int32) (0 : Int32) (0 : Int32) (-1 : Int32) (fun _ => 0) (sJ7_fill_53178_free_a 4 (fun _ => 0) (-1 : Int32)) (fun _ => 0) (fun _ => 0) (fun _ => 0) (0 : Int32) (fun _ => 0) (0 : Int32) (0 : Int32) (fun _ => 0) (fun _ => 0) (fun _ => 0) (fun _ => 0) (fun _ => 0) (fun _ => 0) (fun _ => 0) (fun _ => 0) (fun _ => 0) (0 : Int32) (0 : Int32) (13 : Int32) (fun _ => 0) (fun _ => 0) (0 : Int32) (fun _ => 0) (fun _ => 0) (0 : Int32) (0 : Int32) (fun _ => 0) (fun _ => 0) (fun _ => 0) (fun _ => 0) (fun _ => 0) (fun _ => 0) (0 : Int32) (0 : Int32) (0 : Int32) (fun _ => 0) (fun _ => 0) (fun _ => 0) (fun _ => 0) (fun _ => 0) (fun _ => 0) (0 : Int32) (0 : Int32) (0 : Int32)) ++ [(q1, .inr (10, [.int (0 : Int32), .null, .int (0 : Int32), .null, .int (0 : Int32), .null, .null, .null, .null, .null, .int (0 : Int32), .null, .int (0 : Int32), .int (0 : Int32), .int (0 : Int32), .int (0 : Int32), .int (0 : Int32), .int (0 : Int32), .null, .int (0 : Int32), .null, .int (0 : Int32), .null, .null, .null, .null, .int (0 : Int32), .null, .null, .null, .null, .int (0 : Int32), .null, .null, .int (0 : Int32), .null, .null, .null, .null]))]) (w2 := fun ad => (wC G (cAA q0 AD) (cAA q0 AD 8 0) (cAA q0 AD 9 0) (fun _ => 0) (0 : Int32) (0 : Int32) (0 : Int32) (-1 : Int32) (fun _ => 0) (sJ7_fill_53178_free_a 4 (fun _ => 0) (-1 : Int32)) (fun _ => 0) (fun _ => 0) (fun _ => 0) (0 : Int32) (fun _ => 0) (0 : Int32) (0 : Int32) (fun _ => 0) (fun _ => 0) (fun _ => 0) (fun _ => 0) (fun _ => 0) (fun _ => 0) (fun _ => 0) (fun _ => 0) (fun _ => 0) (0 : Int32) (0 : Int32) (13 : Int32) (fun _ => 0) (fun _ => 0) (0 : Int32) (fun _ => 0) (fun _ => 0) (0 : Int32) (0 : Int32) (fun _ => 0) (fun _ => 0) (fun _ => 0) (fun _ => 0) (fun _ => 0) (fun _ => 0) (0 : Int32) (0 : Int32) (0 : Int32) (fun _ => 0) (fun _ => 0) (fun _ => 0) (fun _ => 0) (fun _ => 0) (fun _ => 0) (0 : Int32) (0 : Int32) (0 : Int32)) ++ wX10 G (cA q1 ad) (0 : Int32) (fun _ => 0) (0 : Int32) (fun _ => 0) (0 : Int32) (fun _ => 0) (fun _ => 0) (fun _ => 0) (fun _ => 0) (aX10_init_191 4) (0 : Int32) (fun _ => 0) (0 : Int32) (-1 : Int32) (0 : Int32) (0 : Int32) (0 : Int32) (0 : Int32) (fun _ => 0) (0 : Int32) (fun _ => 0) (0 : Int32) (fun _ => 0) (fun _ => 0) (fun _ => 0) (fun _ => 0) (0 : Int32) (fun _ => 0) (fun _ => 0) (fun _ => 0) (fun _ => 0) (0 : Int32) (fun _ => 0) (fun _ => 0) (0 : Int32) (fun _ => 0) (fun _ => 0) (fun _ => 0) (fun _ => 0)) (st := [.ref q1]) (wr := wC G (cAA q0 AD) (cAA q0 AD 8 0) (cAA q0 AD 9 0) (fun _ => 0) (0 : Int32) (0 : Int32) (0 : Int32) (-1 : Int32) (fun _ => 0) (sJ7_fill_53178_free_a 4 (fun _ => 0) (-1 : Int32)) (fun _ => 0) (fun _ => 0) (fun _ => 0) (0 : Int32) (fun _ => 0) (0 : Int32) (0 : Int32) (fun _ => 0) (fun _ => 0) (fun _ => 0) (fun _ => 0) (fun _ => 0) (fun _ => 0) (fun _ => 0) (fun _ => 0) (fun _ => 0) (0 : Int32) (0 : Int32) (13 : Int32) (fun _ => 0) (fun _ => 0) (0 : Int32) (fun _ => 0) (fun _ => 0) (0 : Int32) (0 : Int32) (fun _ => 0) (fun _ => 0) (fun _ => 0) (fun _ => 0) (fun _ => 0) (fun _ => 0) (0 : Int32) (0 : Int32) (0 : Int32) (fun _ => 0) (fun _ => 0) (fun _ => 0) (fun _ => 0) (fun _ => 0) (fun _ => 0) (0 : Int32) (0 : Int32) (0 : Int32)) 0 24 902 (c_X10_init l G q1) gL_law_X10_init rfl kL_itX10 kL_mlX10 kL_imX10 rfl (by decide +kernel) ⟨(Nat.le_of_ble_eq_true rfl), (Nat.le_of_ble_eq_true rfl)⟩ (fun z h => absurd h List.not_mem_nil) (fun U hW z h => absurd h List.not_mem_nil) (Nat.le_of_ble_eq_true rfl) (Nat.le_of_ble_eq_true rfl) (Nat.le_of_ble_eq_true rfl) dL_law_12 rfl (fun _ => rfl) (fun ad => ?_)
    refine s_astore_n X (pc := 15) (i := 2) (x := cA q1 ad 0) (lv2 := [(2, .ref (cA q1 ad 0)), (1, .ref (cAA q0 AD 10 0)), (0, .ref b)]) dL_law_15 rfl (by decide) rfl ?_
    refine s_iconst X (pc := 16) (v := nI 0) dL_law_16 (by decide) ?_
    refine s_istore_n X (pc := 17) (i := 3) (x := nI 0) (lv2 := [(3, .int (nI 0)), (2, .ref (cA q1 ad 0)), (1, .ref (cAA q0 AD 10 0)), (0, .ref b)]) dL_law_17 rfl (by decide) rfl ?_
    exact law_loop X hX hbl hL (AD := cAA q0 AD) (ad := cA q1 ad) (L + 1) 0 (by omega) (by omega) rel0
  have hl := lv_entry [Value.ref b] (n := 4) (Nat.le_of_ble_eq_true rfl)
  rw [lg_entry_eq]
  exact body s.heap [] _ (fun k q h => absurd h (by simp)) ⟨fun i j p q h => absurd h (by simp), fun k q h => absurd h (by simp)⟩ va_S.rf hl