theorem iX10_fault_X10 : ∀ z ∈ wsX100, z ∈ wsX10_fault := fun z h => List.mem_cons_of_mem _ (List.mem_append_right _ h)
theorem kX10_fault_34 : Cond.fieldLink RX10 34 "BathingCourtModel" (TX10 13).2.1 (TX10 13).2.2.1 ∈ wsX10_fault := List.mem_of_getElem? (i := 1) rfl
def rX10_fault (a13 : Int32) : Int32 := a13
set_option maxRecDepth 100000 in
set_option maxHeartbeats 4000000 in
theorem c_X10_fault (l : Launch) (G : GT) (ad : Nat → Nat) (a0 : Int32) (a1 : Nat → Int32) (a2 : Int32) (a3 : Nat → Int32) (a4 : Int32) (a5 a6 a7 a8 a9 : Nat → Int32) (a10 : Int32) (a11 : Nat → Int32) (a12 a13 a14 a15 a16 a17 : Int32) (a18 : Nat → Int32) (a19 : Int32) (a20 : Nat → Int32) (a21 : Int32) (a22 a23 a24 a25 : Nat → Int32) (a26 : Int32) (a27 a28 a29 a30 : Nat → Int32) (a31 : Int32) (a32 a33 : Nat → Int32) (a34 : Int32) (a35 a36 a37 a38 : Nat → Int32) : Ci l G yX10_fault wsX10_fault (rmL 0) [.ref (ad 0)] (wX10 G ad a0 a1 a2 a3 a4 a5 a6 a7 a8 a9 a10 a11 a12 a13 a14 a15 a16 a17 a18 a19 a20 a21 a22 a23 a24 a25 a26 a27 a28 a29 a30 a31 a32 a33 a34 a35 a36 a37 a38) (rX10_fault a13) (wX10 G ad a0 a1 a2 a3 a4 a5 a6 a7 a8 a9 a10 a11 a12 a13 a14 a15 a16 a17 a18 a19 a20 a21 a22 a23 a24 a25 a26 a27 a28 a29 a30 a31 a32 a33 a34 a35 a36 a37 a38) := by
  refine ci_start .int (by decide) rfl rfl (Nat.le_of_ble_eq_true rfl) ?_
  intro p e s m args below meth c A X
  refine s_perm (lv2 := [(0, .ref (ad 0))]) [0] rfl ?_
  refine s_aload_n X (pc := 0) (x := (ad 0)) 0 dX10_fault_0 rfl ?_
  refine s_get X (pc := 1) (v := .int a13) iX10_fault_X10 0 rfl rfl 13 (by decide) kX10_fault_34 rfl rfl dX10_fault_1 ?_
  exact s_iret X (pc := 4) (v := a13) dX10_fault_4 rfl rfl

theorem iX10_allThat_X10 : ∀ z ∈ wsX100, z ∈ wsX10_allThat := fun z h => List.mem_cons_of_mem _ (List.mem_append_right _ h)
theorem kX10_allThat_94 : Cond.fieldLink RX10 94 "BathingCourtModel" (TX10 4).2.1 (TX10 4).2.2.1 ∈ wsX10_allThat := List.mem_of_getElem? (i := 1) rfl
theorem kX10_allThat_28 : Cond.fieldLink RX10 28 "BathingCourtModel" (TX10 9).2.1 (TX10 9).2.2.1 ∈ wsX10_allThat := List.mem_of_getElem? (i := 2) rfl
def aX10_allThat_4 (a9 : Nat → Int32) (p0 : Int32) : Nat → Int32
  | 0 => (0 : Int32)
  | k4 + 1 => if (a9 ((12 : Int32) + (nI k4)).toNatClampNeg) = p0 then ((aX10_allThat_4 a9 p0 k4) ||| ((1 : Int32) <<< ((nI k4) &&& 31))) else ((aX10_allThat_4 a9 p0 k4) ||| (0 : Int32))
def rX10_allThat (a4 : Int32) (a9 : Nat → Int32) (p0 : Int32) : Int32 := (aX10_allThat_4 a9 p0 a4.toNatClampNeg)
set_option maxRecDepth 100000 in
set_option maxHeartbeats 4000000 in
theorem c_X10_allThat (l : Launch) (G : GT) (ad : Nat → Nat) (a0 : Int32) (a1 : Nat → Int32) (a2 : Int32) (a3 : Nat → Int32) (a4 : Int32) (a5 a6 a7 a8 a9 : Nat → Int32) (a10 : Int32) (a11 : Nat → Int32) (a12 a13 a14 a15 a16 a17 : Int32) (a18 : Nat → Int32) (a19 : Int32) (a20 : Nat → Int32) (a21 : Int32) (a22 a23 a24 a25 : Nat → Int32) (a26 : Int32) (a27 a28 a29 a30 : Nat → Int32) (a31 : Int32) (a32 a33 : Nat → Int32) (a34 : Int32) (a35 a36 a37 a38 : Nat → Int32) (p0 : Int32) (ca : 0 ≤ a4) (cb : a4 ≤ 5) : Ci l G yX10_allThat wsX10_allThat (rmL 0) [.ref (ad 0), .int p0] (wX10 G ad a0 a1 a2 a3 a4 a5 a6 a7 a8 a9 a10 a11 a12 a13 a14 a15 a16 a17 a18 a19 a20 a21 a22 a23 a24 a25 a26 a27 a28 a29 a30 a31 a32 a33 a34 a35 a36 a37 a38) (rX10_allThat a4 a9 p0) (wX10 G ad a0 a1 a2 a3 a4 a5 a6 a7 a8 a9 a10 a11 a12 a13 a14 a15 a16 a17 a18 a19 a20 a21 a22 a23 a24 a25 a26 a27 a28 a29 a30 a31 a32 a33 a34 a35 a36 a37 a38) := by
  refine ci_start .int (by decide) rfl rfl (Nat.le_of_ble_eq_true rfl) ?_
  intro p e s m args below meth c A X
  have e4 := clampInt ca
  have hN4 := clampLe (n := 5) (b := 5) rfl ca cb
  refine s_perm (lv2 := [(0, .ref (ad 0)), (1, .int p0)]) [0, 1] rfl ?_
  refine s_iconst X (pc := 0) (v := 0) dX10_allThat_0 (by decide) ?_
  refine s_istore_n X (pc := 1) (i := 2) (lv2 := [(2, .int (0 : Int32)), (0, .ref (ad 0)), (1, .int p0)]) dX10_allThat_1 rfl (by decide) rfl ?_
  refine s_iconst X (pc := 2) (v := 0) dX10_allThat_2 (by decide) ?_
  refine s_istore_n X (pc := 3) (i := 3) (lv2 := [(3, .int (0 : Int32)), (2, .int (0 : Int32)), (0, .ref (ad 0)), (1, .int p0)]) dX10_allThat_3 rfl (by decide) rfl ?_
  refine s_perm (lv2 := [(0, .ref (ad 0)), (1, .int p0), (2, .int (0 : Int32)), (3, .int (0 : Int32))]) [2, 3, 1, 0] rfl ?_
  have L4 : ∀ (n4 k4 : Nat), k4 + n4 = a4.toNatClampNeg → Sm p l e (rmL 0) s m args below meth c G A 4 0 0 (Qci below G A args s (rX10_allThat a4 a9 p0) (wX10 G ad a0 a1 a2 a3 a4 a5 a6 a7 a8 a9 a10 a11 a12 a13 a14 a15 a16 a17 a18 a19 a20 a21 a22 a23 a24 a25 a26 a27 a28 a29 a30 a31 a32 a33 a34 a35 a36 a37 a38)) 4 [(0, .ref (ad 0)), (1, .int p0), (2, .int (aX10_allThat_4 a9 p0 k4)), (3, .int (nI k4))] [] (wX10 G ad a0 a1 a2 a3 a4 a5 a6 a7 a8 a9 a10 a11 a12 a13 a14 a15 a16 a17 a18 a19 a20 a21 a22 a23 a24 a25 a26 a27 a28 a29 a30 a31 a32 a33 a34 a35 a36 a37 a38) := by
    intro n4
    induction n4 with
    | zero =>
      intro k4 hk4
      have hK4 : k4 = a4.toNatClampNeg := by omega
      rw [hK4]
      have tk4 : (nI a4.toNatClampNeg).toInt = ((a4.toNatClampNeg : Nat) : Int) := nI_toInt (by omega)
      have eN4 : (a4).toInt = ((a4.toNatClampNeg : Nat) : Int) := e4
      refine s_iload_n X (pc := 4) (x := nI a4.toNatClampNeg) 3 dX10_allThat_4 rfl ?_
      refine s_aload_n X (pc := 5) (x := (ad 0)) 0 dX10_allThat_5 rfl ?_
      refine s_get X (pc := 6) (v := .int a4) iX10_allThat_X10 0 rfl rfl 4 (by decide) kX10_allThat_94 rfl rfl dX10_allThat_6 ?_
      refine s_icmp_ge X (pc := 9) (tgt := 41) dX10_allThat_9 (by decide) (fun c9 => ?_) (fun c9 => ?_)
      ·
        refine s_iload_n X (pc := 41) (x := (aX10_allThat_4 a9 p0 a4.toNatClampNeg)) 2 dX10_allThat_41 rfl ?_
        exact s_iret X (pc := 42) (v := (aX10_allThat_4 a9 p0 a4.toNatClampNeg)) dX10_allThat_42 rfl rfl
      ·
        exact absurd ((t_le eN4 tk4).mpr (by omega)) c9
    | succ n4 ih4 =>
      intro k4 hk4
      have hlt4 : k4 < a4.toNatClampNeg := by omega
      have tk4 : (nI k4).toInt = ((k4 : Nat) : Int) := nI_toInt (by omega)
      have eN4 : (a4).toInt = ((a4.toNatClampNeg : Nat) : Int) := e4
      have kb0 : (0 : Int32) ≤ nI k4 := (t_le (x := 0) rfl tk4).mpr (by omega)
      have kb1 : nI k4 < (5 : Int32) := (t_lt (y := 5) tk4 rfl).mpr (by omega)
      refine s_iload_n X (pc := 4) (x := nI k4) 3 dX10_allThat_4 rfl ?_
      refine s_aload_n X (pc := 5) (x := (ad 0)) 0 dX10_allThat_5 rfl ?_
      refine s_get X (pc := 6) (v := .int a4) iX10_allThat_X10 0 rfl rfl 4 (by decide) kX10_allThat_94 rfl rfl dX10_allThat_6 ?_
      refine s_icmp_ge X (pc := 9) (tgt := 41) dX10_allThat_9 (by decide) (fun c9 => ?_) (fun c9 => ?_)
      ·
        exact absurd ((t_le eN4 tk4).mp c9) (by omega)
      ·
        refine s_iload_n X (pc := 12) (x := (aX10_allThat_4 a9 p0 k4)) 2 dX10_allThat_12 rfl ?_
        refine s_aload_n X (pc := 13) (x := (ad 0)) 0 dX10_allThat_13 rfl ?_
        refine s_get X (pc := 14) (v := .ref (ad 10)) iX10_allThat_X10 0 rfl rfl 9 (by decide) kX10_allThat_28 rfl rfl dX10_allThat_14 ?_
        refine s_bipush X (pc := 17) (v := 12) dX10_allThat_17 (by decide) ?_
        refine s_iload_n X (pc := 19) (x := nI k4) 3 dX10_allThat_19 rfl ?_
        refine s_iadd X (pc := 20) dX10_allThat_20 ?_
        refine s_iald X (pc := 21) (n := 23) (f := a9) 7 rfl (by first | with_reducible assumption | exact vin (b := 23) rfl (by grind) (by grind)) dX10_allThat_21 ?_
        refine s_iload_n X (pc := 22) (x := p0) 1 dX10_allThat_22 rfl ?_
        refine s_icmp_ne X (pc := 23) (tgt := 32) dX10_allThat_23 (by decide) (fun c23 => ?_) (fun c23 => ?_)
        ·
          refine s_iconst X (pc := 32) (v := 0) dX10_allThat_32 (by decide) ?_
          refine s_ior X (pc := 33) dX10_allThat_33 ?_
          refine s_istore_n X (pc := 34) (i := 2) (lv2 := [(2, .int ((aX10_allThat_4 a9 p0 k4) ||| (0 : Int32))), (0, .ref (ad 0)), (1, .int p0), (3, .int (nI k4))]) dX10_allThat_34 rfl (by decide) rfl ?_
          refine s_iinc X (pc := 35) (v := nI (k4 + 1)) (lv2 := [(3, .int (nI (k4 + 1))), (2, .int ((aX10_allThat_4 a9 p0 k4) ||| (0 : Int32))), (0, .ref (ad 0)), (1, .int p0)]) 3 dX10_allThat_35 rfl (nI_1 _) (by decide) rfl ?_
          refine s_goto X (pc := 38) (tgt := 4) dX10_allThat_38 (by decide) ?_
          refine s_perm (lv2 := [(0, .ref (ad 0)), (1, .int p0), (2, .int ((aX10_allThat_4 a9 p0 k4) ||| (0 : Int32))), (3, .int (nI (k4 + 1)))]) [2, 3, 1, 0] rfl ?_
          have hb4 : (aX10_allThat_4 a9 p0 (k4 + 1)) = (aX10_allThat_4 a9 p0 k4) ||| (0 : Int32) := by rw [aX10_allThat_4]; exact (if_neg c23)
          refine s_cast (lv2 := [(0, .ref (ad 0)), (1, .int p0), (2, .int (aX10_allThat_4 a9 p0 (k4 + 1))), (3, .int (nI (k4 + 1)))]) (w2 := wX10 G ad a0 a1 a2 a3 a4 a5 a6 a7 a8 a9 a10 a11 a12 a13 a14 a15 a16 a17 a18 a19 a20 a21 a22 a23 a24 a25 a26 a27 a28 a29 a30 a31 a32 a33 a34 a35 a36 a37 a38) (by first | (rw [hb4]; done) | rfl) (by first | (rw [hb4]; done) | rfl) ?_
          exact ih4 (k4 + 1) (by omega)
        ·
          refine s_iconst X (pc := 26) (v := 1) dX10_allThat_26 (by decide) ?_
          refine s_iload_n X (pc := 27) (x := nI k4) 3 dX10_allThat_27 rfl ?_
          refine s_ishl X (pc := 28) dX10_allThat_28 ?_
          refine s_goto X (pc := 29) (tgt := 33) dX10_allThat_29 (by decide) ?_
          refine s_ior X (pc := 33) dX10_allThat_33 ?_
          refine s_istore_n X (pc := 34) (i := 2) (lv2 := [(2, .int ((aX10_allThat_4 a9 p0 k4) ||| ((1 : Int32) <<< ((nI k4) &&& 31)))), (0, .ref (ad 0)), (1, .int p0), (3, .int (nI k4))]) dX10_allThat_34 rfl (by decide) rfl ?_
          refine s_iinc X (pc := 35) (v := nI (k4 + 1)) (lv2 := [(3, .int (nI (k4 + 1))), (2, .int ((aX10_allThat_4 a9 p0 k4) ||| ((1 : Int32) <<< ((nI k4) &&& 31)))), (0, .ref (ad 0)), (1, .int p0)]) 3 dX10_allThat_35 rfl (nI_1 _) (by decide) rfl ?_
          refine s_goto X (pc := 38) (tgt := 4) dX10_allThat_38 (by decide) ?_
          refine s_perm (lv2 := [(0, .ref (ad 0)), (1, .int p0), (2, .int ((aX10_allThat_4 a9 p0 k4) ||| ((1 : Int32) <<< ((nI k4) &&& 31)))), (3, .int (nI (k4 + 1)))]) [2, 3, 1, 0] rfl ?_
          have hb4 : (aX10_allThat_4 a9 p0 (k4 + 1)) = (aX10_allThat_4 a9 p0 k4) ||| ((1 : Int32) <<< ((nI k4) &&& 31)) := by rw [aX10_allThat_4]; exact (if_pos c23)
          refine s_cast (lv2 := [(0, .ref (ad 0)), (1, .int p0), (2, .int (aX10_allThat_4 a9 p0 (k4 + 1))), (3, .int (nI (k4 + 1)))]) (w2 := wX10 G ad a0 a1 a2 a3 a4 a5 a6 a7 a8 a9 a10 a11 a12 a13 a14 a15 a16 a17 a18 a19 a20 a21 a22 a23 a24 a25 a26 a27 a28 a29 a30 a31 a32 a33 a34 a35 a36 a37 a38) (by first | (rw [hb4]; done) | rfl) (by first | (rw [hb4]; done) | rfl) ?_
          exact ih4 (k4 + 1) (by omega)
  exact L4 a4.toNatClampNeg 0 (Nat.zero_add _)

theorem iX10_owed_X10 : ∀ z ∈ wsX100, z ∈ wsX10_owed := fun z h => List.mem_cons_of_mem _ (List.mem_append_right _ h)
theorem kX10_owed_94 : Cond.fieldLink RX10 94 "BathingCourtModel" (TX10 4).2.1 (TX10 4).2.2.1 ∈ wsX10_owed := List.mem_of_getElem? (i := 1) rfl
theorem kX10_owed_28 : Cond.fieldLink RX10 28 "BathingCourtModel" (TX10 9).2.1 (TX10 9).2.2.1 ∈ wsX10_owed := List.mem_of_getElem? (i := 2) rfl
theorem kX10_owed_25 : Cond.fieldLink RX10 25 "BathingCourtModel" (TX10 8).2.1 (TX10 8).2.2.1 ∈ wsX10_owed := List.mem_of_getElem? (i := 3) rfl
def aX10_owed_4 (a8 a9 : Nat → Int32) : Nat → Int32
  | 0 => (0 : Int32)
  | k4 + 1 => if (a9 ((12 : Int32) + (nI k4)).toNatClampNeg) = (2 : Int32) then ((aX10_owed_4 a8 a9 k4) + (a8 (nI k4).toNatClampNeg)) else ((aX10_owed_4 a8 a9 k4) + (0 : Int32))
def rX10_owed (a4 : Int32) (a8 a9 : Nat → Int32) : Int32 := (aX10_owed_4 a8 a9 a4.toNatClampNeg)
set_option maxRecDepth 100000 in
set_option maxHeartbeats 4000000 in
theorem c_X10_owed (l : Launch) (G : GT) (ad : Nat → Nat) (a0 : Int32) (a1 : Nat → Int32) (a2 : Int32) (a3 : Nat → Int32) (a4 : Int32) (a5 a6 a7 a8 a9 : Nat → Int32) (a10 : Int32) (a11 : Nat → Int32) (a12 a13 a14 a15 a16 a17 : Int32) (a18 : Nat → Int32) (a19 : Int32) (a20 : Nat → Int32) (a21 : Int32) (a22 a23 a24 a25 : Nat → Int32) (a26 : Int32) (a27 a28 a29 a30 : Nat → Int32) (a31 : Int32) (a32 a33 : Nat → Int32) (a34 : Int32) (a35 a36 a37 a38 : Nat → Int32) (ca : 0 ≤ a4) (cb : a4 ≤ 5) : Ci l G yX10_owed wsX10_owed (rmL 0) [.ref (ad 0)] (wX10 G ad a0 a1 a2 a3 a4 a5 a6 a7 a8 a9 a10 a11 a12 a13 a14 a15 a16 a17 a18 a19 a20 a21 a22 a23 a24 a25 a26 a27 a28 a29 a30 a31 a32 a33 a34 a35 a36 a37 a38) (rX10_owed a4 a8 a9) (wX10 G ad a0 a1 a2 a3 a4 a5 a6 a7 a8 a9 a10 a11 a12 a13 a14 a15 a16 a17 a18 a19 a20 a21 a22 a23 a24 a25 a26 a27 a28 a29 a30 a31 a32 a33 a34 a35 a36 a37 a38) := by
  refine ci_start .int (by decide) rfl rfl (Nat.le_of_ble_eq_true rfl) ?_
  intro p e s m args below meth c A X
  have e4 := clampInt ca
  have hN4 := clampLe (n := 5) (b := 5) rfl ca cb
  refine s_perm (lv2 := [(0, .ref (ad 0))]) [0] rfl ?_
  refine s_iconst X (pc := 0) (v := 0) dX10_owed_0 (by decide) ?_
  refine s_istore_n X (pc := 1) (i := 1) (lv2 := [(1, .int (0 : Int32)), (0, .ref (ad 0))]) dX10_owed_1 rfl (by decide) rfl ?_
  refine s_iconst X (pc := 2) (v := 0) dX10_owed_2 (by decide) ?_
  refine s_istore_n X (pc := 3) (i := 2) (lv2 := [(2, .int (0 : Int32)), (1, .int (0 : Int32)), (0, .ref (ad 0))]) dX10_owed_3 rfl (by decide) rfl ?_
  refine s_perm (lv2 := [(0, .ref (ad 0)), (1, .int (0 : Int32)), (2, .int (0 : Int32))]) [2, 1, 0] rfl ?_
  have L4 : ∀ (n4 k4 : Nat), k4 + n4 = a4.toNatClampNeg → Sm p l e (rmL 0) s m args below meth c G A 3 0 0 (Qci below G A args s (rX10_owed a4 a8 a9) (wX10 G ad a0 a1 a2 a3 a4 a5 a6 a7 a8 a9 a10 a11 a12 a13 a14 a15 a16 a17 a18 a19 a20 a21 a22 a23 a24 a25 a26 a27 a28 a29 a30 a31 a32 a33 a34 a35 a36 a37 a38)) 4 [(0, .ref (ad 0)), (1, .int (aX10_owed_4 a8 a9 k4)), (2, .int (nI k4))] [] (wX10 G ad a0 a1 a2 a3 a4 a5 a6 a7 a8 a9 a10 a11 a12 a13 a14 a15 a16 a17 a18 a19 a20 a21 a22 a23 a24 a25 a26 a27 a28 a29 a30 a31 a32 a33 a34 a35 a36 a37 a38) := by
    intro n4
    induction n4 with
    | zero =>
      intro k4 hk4
      have hK4 : k4 = a4.toNatClampNeg := by omega
      rw [hK4]
      have tk4 : (nI a4.toNatClampNeg).toInt = ((a4.toNatClampNeg : Nat) : Int) := nI_toInt (by omega)
      have eN4 : (a4).toInt = ((a4.toNatClampNeg : Nat) : Int) := e4
      refine s_iload_n X (pc := 4) (x := nI a4.toNatClampNeg) 2 dX10_owed_4 rfl ?_
      refine s_aload_n X (pc := 5) (x := (ad 0)) 0 dX10_owed_5 rfl ?_
      refine s_get X (pc := 6) (v := .int a4) iX10_owed_X10 0 rfl rfl 4 (by decide) kX10_owed_94 rfl rfl dX10_owed_6 ?_
      refine s_icmp_ge X (pc := 9) (tgt := 44) dX10_owed_9 (by decide) (fun c9 => ?_) (fun c9 => ?_)
      ·
        refine s_iload_n X (pc := 44) (x := (aX10_owed_4 a8 a9 a4.toNatClampNeg)) 1 dX10_owed_44 rfl ?_
        exact s_iret X (pc := 45) (v := (aX10_owed_4 a8 a9 a4.toNatClampNeg)) dX10_owed_45 rfl rfl
      ·
        exact absurd ((t_le eN4 tk4).mpr (by omega)) c9
    | succ n4 ih4 =>
      intro k4 hk4
      have hlt4 : k4 < a4.toNatClampNeg := by omega
      have tk4 : (nI k4).toInt = ((k4 : Nat) : Int) := nI_toInt (by omega)
      have eN4 : (a4).toInt = ((a4.toNatClampNeg : Nat) : Int) := e4
      have kb0 : (0 : Int32) ≤ nI k4 := (t_le (x := 0) rfl tk4).mpr (by omega)
      have kb1 : nI k4 < (5 : Int32) := (t_lt (y := 5) tk4 rfl).mpr (by omega)
      refine s_iload_n X (pc := 4) (x := nI k4) 2 dX10_owed_4 rfl ?_
      refine s_aload_n X (pc := 5) (x := (ad 0)) 0 dX10_owed_5 rfl ?_
      refine s_get X (pc := 6) (v := .int a4) iX10_owed_X10 0 rfl rfl 4 (by decide) kX10_owed_94 rfl rfl dX10_owed_6 ?_
      refine s_icmp_ge X (pc := 9) (tgt := 44) dX10_owed_9 (by decide) (fun c9 => ?_) (fun c9 => ?_)
      ·
        exact absurd ((t_le eN4 tk4).mp c9) (by omega)
      ·
        refine s_iload_n X (pc := 12) (x := (aX10_owed_4 a8 a9 k4)) 1 dX10_owed_12 rfl ?_
        refine s_aload_n X (pc := 13) (x := (ad 0)) 0 dX10_owed_13 rfl ?_
        refine s_get X (pc := 14) (v := .ref (ad 10)) iX10_owed_X10 0 rfl rfl 9 (by decide) kX10_owed_28 rfl rfl dX10_owed_14 ?_
        refine s_bipush X (pc := 17) (v := 12) dX10_owed_17 (by decide) ?_
        refine s_iload_n X (pc := 19) (x := nI k4) 2 dX10_owed_19 rfl ?_
        refine s_iadd X (pc := 20) dX10_owed_20 ?_
        refine s_iald X (pc := 21) (n := 23) (f := a9) 7 rfl (by first | with_reducible assumption | exact vin (b := 23) rfl (by grind) (by grind)) dX10_owed_21 ?_
        refine s_iconst X (pc := 22) (v := 2) dX10_owed_22 (by decide) ?_
        refine s_icmp_ne X (pc := 23) (tgt := 35) dX10_owed_23 (by decide) (fun c23 => ?_) (fun c23 => ?_)
        ·
          refine s_iconst X (pc := 35) (v := 0) dX10_owed_35 (by decide) ?_
          refine s_iadd X (pc := 36) dX10_owed_36 ?_
          refine s_istore_n X (pc := 37) (i := 1) (lv2 := [(1, .int ((aX10_owed_4 a8 a9 k4) + (0 : Int32))), (0, .ref (ad 0)), (2, .int (nI k4))]) dX10_owed_37 rfl (by decide) rfl ?_
          refine s_iinc X (pc := 38) (v := nI (k4 + 1)) (lv2 := [(2, .int (nI (k4 + 1))), (1, .int ((aX10_owed_4 a8 a9 k4) + (0 : Int32))), (0, .ref (ad 0))]) 2 dX10_owed_38 rfl (nI_1 _) (by decide) rfl ?_
          refine s_goto X (pc := 41) (tgt := 4) dX10_owed_41 (by decide) ?_
          refine s_perm (lv2 := [(0, .ref (ad 0)), (1, .int ((aX10_owed_4 a8 a9 k4) + (0 : Int32))), (2, .int (nI (k4 + 1)))]) [2, 1, 0] rfl ?_
          have hb4 : (aX10_owed_4 a8 a9 (k4 + 1)) = (aX10_owed_4 a8 a9 k4) + (0 : Int32) := by rw [aX10_owed_4]; exact (if_neg c23)
          refine s_cast (lv2 := [(0, .ref (ad 0)), (1, .int (aX10_owed_4 a8 a9 (k4 + 1))), (2, .int (nI (k4 + 1)))]) (w2 := wX10 G ad a0 a1 a2 a3 a4 a5 a6 a7 a8 a9 a10 a11 a12 a13 a14 a15 a16 a17 a18 a19 a20 a21 a22 a23 a24 a25 a26 a27 a28 a29 a30 a31 a32 a33 a34 a35 a36 a37 a38) (by first | (rw [hb4]; done) | rfl) (by first | (rw [hb4]; done) | rfl) ?_
          exact ih4 (k4 + 1) (by omega)
        ·
          refine s_aload_n X (pc := 26) (x := (ad 0)) 0 dX10_owed_26 rfl ?_
          refine s_get X (pc := 27) (v := .ref (ad 9)) iX10_owed_X10 0 rfl rfl 8 (by decide) kX10_owed_25 rfl rfl dX10_owed_27 ?_
          refine s_iload_n X (pc := 30) (x := nI k4) 2 dX10_owed_30 rfl ?_
          refine s_iald X (pc := 31) (n := 5) (f := a8) 6 rfl (vp_in_nI (by omega) (by decide)) dX10_owed_31 ?_
          refine s_goto X (pc := 32) (tgt := 36) dX10_owed_32 (by decide) ?_
          refine s_iadd X (pc := 36) dX10_owed_36 ?_
          refine s_istore_n X (pc := 37) (i := 1) (lv2 := [(1, .int ((aX10_owed_4 a8 a9 k4) + (a8 (nI k4).toNatClampNeg))), (0, .ref (ad 0)), (2, .int (nI k4))]) dX10_owed_37 rfl (by decide) rfl ?_
          refine s_iinc X (pc := 38) (v := nI (k4 + 1)) (lv2 := [(2, .int (nI (k4 + 1))), (1, .int ((aX10_owed_4 a8 a9 k4) + (a8 (nI k4).toNatClampNeg))), (0, .ref (ad 0))]) 2 dX10_owed_38 rfl (nI_1 _) (by decide) rfl ?_
          refine s_goto X (pc := 41) (tgt := 4) dX10_owed_41 (by decide) ?_
          refine s_perm (lv2 := [(0, .ref (ad 0)), (1, .int ((aX10_owed_4 a8 a9 k4) + (a8 (nI k4).toNatClampNeg))), (2, .int (nI (k4 + 1)))]) [2, 1, 0] rfl ?_
          have hb4 : (aX10_owed_4 a8 a9 (k4 + 1)) = (aX10_owed_4 a8 a9 k4) + (a8 (nI k4).toNatClampNeg) := by rw [aX10_owed_4]; exact (if_pos c23)
          refine s_cast (lv2 := [(0, .ref (ad 0)), (1, .int (aX10_owed_4 a8 a9 (k4 + 1))), (2, .int (nI (k4 + 1)))]) (w2 := wX10 G ad a0 a1 a2 a3 a4 a5 a6 a7 a8 a9 a10 a11 a12 a13 a14 a15 a16 a17 a18 a19 a20 a21 a22 a23 a24 a25 a26 a27 a28 a29 a30 a31 a32 a33 a34 a35 a36 a37 a38) (by first | (rw [hb4]; done) | rfl) (by first | (rw [hb4]; done) | rfl) ?_
          exact ih4 (k4 + 1) (by omega)
  exact L4 a4.toNatClampNeg 0 (Nat.zero_add _)

theorem iX10_told_X10 : ∀ z ∈ wsX100, z ∈ wsX10_told := fun z h => List.mem_cons_of_mem _ (List.mem_append_right _ h)
theorem kX10_told_152 : Cond.fieldLink RX10 152 "BathingCourtModel" (TX10 0).2.1 (TX10 0).2.2.1 ∈ wsX10_told := List.mem_of_getElem? (i := 1) rfl
theorem kX10_told_87 : Cond.fieldLink RX10 87 "BathingCourtModel" (TX10 2).2.1 (TX10 2).2.2.1 ∈ wsX10_told := List.mem_of_getElem? (i := 2) rfl
theorem kX10_told_94 : Cond.fieldLink RX10 94 "BathingCourtModel" (TX10 4).2.1 (TX10 4).2.2.1 ∈ wsX10_told := List.mem_of_getElem? (i := 3) rfl
theorem kX10_told_102 : Cond.fieldLink RX10 102 "BathingCourtModel" (TX10 12).2.1 (TX10 12).2.2.1 ∈ wsX10_told := List.mem_of_getElem? (i := 4) rfl
theorem kX10_told_28 : Cond.fieldLink RX10 28 "BathingCourtModel" (TX10 9).2.1 (TX10 9).2.2.1 ∈ wsX10_told := List.mem_of_getElem? (i := 5) rfl
theorem kX10_told_161 : Cond.fieldLink RX10 161 "BathingCourtModel" (TX10 31).2.1 (TX10 31).2.2.1 ∈ wsX10_told := List.mem_of_getElem? (i := 6) rfl
theorem kX10_told_164 : Cond.fieldLink RX10 164 "BathingCourtModel" (TX10 34).2.1 (TX10 34).2.2.1 ∈ wsX10_told := List.mem_of_getElem? (i := 7) rfl
theorem kX10_told_167 : Cond.fieldLink RX10 167 "BathingCourtModel" (TX10 26).2.1 (TX10 26).2.2.1 ∈ wsX10_told := List.mem_of_getElem? (i := 8) rfl
theorem kX10_told_c101 : Jvm.Cond.constant RX10 101 (-1000000002) ∈ wsX10_told := List.mem_of_getElem? (i := 9) rfl
def rX10_told (a0 a2 a4 : Int32) (a8 a9 : Nat → Int32) (a12 a26 a31 a34 p0 : Int32) : Int32 := if p0 = 0 then a0 else (if p0 = 1 then a2 else (if p0 = 2 then a4 else (if p0 = 3 then a12 else (if p0 = 4 then (a9 22) else (if p0 = 5 then (rX10_allThat a4 a9 (0 : Int32)) else (if p0 = 6 then (rX10_allThat a4 a9 (2 : Int32)) else (if p0 = 7 then (rX10_allThat a4 a9 (3 : Int32)) else (if p0 = 8 then (rX10_allThat a4 a9 (4 : Int32)) else (if p0 = 9 then (rX10_owed a4 a8 a9) else (if p0 = 10 then a31 else (if p0 = 11 then a34 else (if p0 = 12 then a26 else (-1000000002 : Int32)))))))))))))
set_option maxRecDepth 100000 in
set_option maxHeartbeats 4000000 in
theorem c_X10_told (l : Launch) (G : GT) (ad : Nat → Nat) (a0 : Int32) (a1 : Nat → Int32) (a2 : Int32) (a3 : Nat → Int32) (a4 : Int32) (a5 a6 a7 a8 a9 : Nat → Int32) (a10 : Int32) (a11 : Nat → Int32) (a12 a13 a14 a15 a16 a17 : Int32) (a18 : Nat → Int32) (a19 : Int32) (a20 : Nat → Int32) (a21 : Int32) (a22 a23 a24 a25 : Nat → Int32) (a26 : Int32) (a27 a28 a29 a30 : Nat → Int32) (a31 : Int32) (a32 a33 : Nat → Int32) (a34 : Int32) (a35 a36 a37 a38 : Nat → Int32) (p0 : Int32) (ca : 0 ≤ a4) (cb : a4 ≤ 5) : Ci l G yX10_told wsX10_told (rmL 1) [.ref (ad 0), .int p0] (wX10 G ad a0 a1 a2 a3 a4 a5 a6 a7 a8 a9 a10 a11 a12 a13 a14 a15 a16 a17 a18 a19 a20 a21 a22 a23 a24 a25 a26 a27 a28 a29 a30 a31 a32 a33 a34 a35 a36 a37 a38) (rX10_told a0 a2 a4 a8 a9 a12 a26 a31 a34 p0) (wX10 G ad a0 a1 a2 a3 a4 a5 a6 a7 a8 a9 a10 a11 a12 a13 a14 a15 a16 a17 a18 a19 a20 a21 a22 a23 a24 a25 a26 a27 a28 a29 a30 a31 a32 a33 a34 a35 a36 a37 a38) := by
  refine ci_start .int (by decide) rfl rfl (Nat.le_of_ble_eq_true rfl) ?_
  intro p e s m args below meth c A X
  refine s_perm (lv2 := [(0, .ref (ad 0)), (1, .int p0)]) [0, 1] rfl ?_
  refine s_iload_n X (pc := 0) (x := p0) 1 dX10_told_0 rfl ?_
  by_cases c1_0 : p0 = 0
  ·
    refine s_tableIn X (pc := 1) (tgt := 68) dX10_told_1 (by rw [c1_0]; decide) (by rw [c1_0]; decide) (by rw [c1_0]; rfl) (by decide) ?_
    refine s_aload_n X (pc := 68) (x := (ad 0)) 0 dX10_told_68 rfl ?_
    refine s_get X (pc := 69) (v := .int a0) iX10_told_X10 0 rfl rfl 0 (by decide) kX10_told_152 rfl rfl dX10_told_69 ?_
    exact s_iret X (pc := 72) (v := a0) dX10_told_72 (Eq.symm (show rX10_told a0 a2 a4 a8 a9 a12 a26 a31 a34 p0 = a0 from (by unfold rX10_told; exact (if_pos c1_0)))) rfl
  by_cases c1_1 : p0 = 1
  ·
    refine s_tableIn X (pc := 1) (tgt := 73) dX10_told_1 (by rw [c1_1]; decide) (by rw [c1_1]; decide) (by rw [c1_1]; rfl) (by decide) ?_
    refine s_aload_n X (pc := 73) (x := (ad 0)) 0 dX10_told_73 rfl ?_
    refine s_get X (pc := 74) (v := .int a2) iX10_told_X10 0 rfl rfl 2 (by decide) kX10_told_87 rfl rfl dX10_told_74 ?_
    exact s_iret X (pc := 77) (v := a2) dX10_told_77 (Eq.symm (show rX10_told a0 a2 a4 a8 a9 a12 a26 a31 a34 p0 = a2 from (by unfold rX10_told; exact ((if_neg c1_0).trans (if_pos c1_1))))) rfl
  by_cases c1_2 : p0 = 2
  ·
    refine s_tableIn X (pc := 1) (tgt := 78) dX10_told_1 (by rw [c1_2]; decide) (by rw [c1_2]; decide) (by rw [c1_2]; rfl) (by decide) ?_
    refine s_aload_n X (pc := 78) (x := (ad 0)) 0 dX10_told_78 rfl ?_
    refine s_get X (pc := 79) (v := .int a4) iX10_told_X10 0 rfl rfl 4 (by decide) kX10_told_94 rfl rfl dX10_told_79 ?_
    exact s_iret X (pc := 82) (v := a4) dX10_told_82 (Eq.symm (show rX10_told a0 a2 a4 a8 a9 a12 a26 a31 a34 p0 = a4 from (by unfold rX10_told; exact ((if_neg c1_0).trans ((if_neg c1_1).trans (if_pos c1_2)))))) rfl
  by_cases c1_3 : p0 = 3
  ·
    refine s_tableIn X (pc := 1) (tgt := 83) dX10_told_1 (by rw [c1_3]; decide) (by rw [c1_3]; decide) (by rw [c1_3]; rfl) (by decide) ?_
    refine s_aload_n X (pc := 83) (x := (ad 0)) 0 dX10_told_83 rfl ?_
    refine s_get X (pc := 84) (v := .int a12) iX10_told_X10 0 rfl rfl 12 (by decide) kX10_told_102 rfl rfl dX10_told_84 ?_
    exact s_iret X (pc := 87) (v := a12) dX10_told_87 (Eq.symm (show rX10_told a0 a2 a4 a8 a9 a12 a26 a31 a34 p0 = a12 from (by unfold rX10_told; exact ((if_neg c1_0).trans ((if_neg c1_1).trans ((if_neg c1_2).trans (if_pos c1_3))))))) rfl
  by_cases c1_4 : p0 = 4
  ·
    refine s_tableIn X (pc := 1) (tgt := 88) dX10_told_1 (by rw [c1_4]; decide) (by rw [c1_4]; decide) (by rw [c1_4]; rfl) (by decide) ?_
    refine s_aload_n X (pc := 88) (x := (ad 0)) 0 dX10_told_88 rfl ?_
    refine s_get X (pc := 89) (v := .ref (ad 10)) iX10_told_X10 0 rfl rfl 9 (by decide) kX10_told_28 rfl rfl dX10_told_89 ?_
    refine s_bipush X (pc := 92) (v := 22) dX10_told_92 (by decide) ?_
    refine s_iald X (pc := 94) (n := 23) (f := a9) 7 rfl (vp_in_iff.mpr (by decide)) dX10_told_94 ?_
    refine s_topeq (y := a9 22) rfl ?_
    exact s_iret X (pc := 95) (v := a9 22) dX10_told_95 (Eq.symm (show rX10_told a0 a2 a4 a8 a9 a12 a26 a31 a34 p0 = a9 22 from (by unfold rX10_told; exact ((if_neg c1_0).trans ((if_neg c1_1).trans ((if_neg c1_2).trans ((if_neg c1_3).trans (if_pos c1_4)))))))) rfl
  by_cases c1_5 : p0 = 5
  ·
    refine s_tableIn X (pc := 1) (tgt := 96) dX10_told_1 (by rw [c1_5]; decide) (by rw [c1_5]; decide) (by rw [c1_5]; rfl) (by decide) ?_
    refine s_aload_n X (pc := 96) (x := (ad 0)) 0 dX10_told_96 rfl ?_
    refine s_iconst X (pc := 97) (v := 0) dX10_told_97 (by decide) ?_
    refine s_callVi0 X (pc := 98) (r := rX10_allThat a4 a9 (0 : Int32)) (w := wX10 G ad a0 a1 a2 a3 a4 a5 a6 a7 a8 a9 a10 a11 a12 a13 a14 a15 a16 a17 a18 a19 a20 a21 a22 a23 a24 a25 a26 a27 a28 a29 a30 a31 a32 a33 a34 a35 a36 a37 a38) (n := 1) (st := []) (As := [.int (0 : Int32)]) (w2 := wX10 G ad a0 a1 a2 a3 a4 a5 a6 a7 a8 a9 a10 a11 a12 a13 a14 a15 a16 a17 a18 a19 a20 a21 a22 a23 a24 a25 a26 a27 a28 a29 a30 a31 a32 a33 a34 a35 a36 a37 a38) 0 (c_X10_allThat l G ad a0 a1 a2 a3 a4 a5 a6 a7 a8 a9 a10 a11 a12 a13 a14 a15 a16 a17 a18 a19 a20 a21 a22 a23 a24 a25 a26 a27 a28 a29 a30 a31 a32 a33 a34 a35 a36 a37 a38 (0 : Int32) (by first | with_reducible assumption | grind) (by first | with_reducible assumption | grind)) gX10_told_X10_allThat rfl (by decide +kernel) ⟨Nat.le_of_ble_eq_true rfl, Nat.le_of_ble_eq_true rfl⟩ 0 rfl rfl rfl rfl (Nat.le_of_ble_eq_true rfl) (Nat.zero_le _) (Nat.zero_le _) dX10_told_98 ?_
    exact s_iret X (pc := 101) (v := rX10_allThat a4 a9 (0 : Int32)) dX10_told_101 (Eq.symm (show rX10_told a0 a2 a4 a8 a9 a12 a26 a31 a34 p0 = rX10_allThat a4 a9 (0 : Int32) from (by unfold rX10_told; exact ((if_neg c1_0).trans ((if_neg c1_1).trans ((if_neg c1_2).trans ((if_neg c1_3).trans ((if_neg c1_4).trans (if_pos c1_5))))))))) rfl
  by_cases c1_6 : p0 = 6
  ·
    refine s_tableIn X (pc := 1) (tgt := 102) dX10_told_1 (by rw [c1_6]; decide) (by rw [c1_6]; decide) (by rw [c1_6]; rfl) (by decide) ?_
    refine s_aload_n X (pc := 102) (x := (ad 0)) 0 dX10_told_102 rfl ?_
    refine s_iconst X (pc := 103) (v := 2) dX10_told_103 (by decide) ?_
    refine s_callVi0 X (pc := 104) (r := rX10_allThat a4 a9 (2 : Int32)) (w := wX10 G ad a0 a1 a2 a3 a4 a5 a6 a7 a8 a9 a10 a11 a12 a13 a14 a15 a16 a17 a18 a19 a20 a21 a22 a23 a24 a25 a26 a27 a28 a29 a30 a31 a32 a33 a34 a35 a36 a37 a38) (n := 1) (st := []) (As := [.int (2 : Int32)]) (w2 := wX10 G ad a0 a1 a2 a3 a4 a5 a6 a7 a8 a9 a10 a11 a12 a13 a14 a15 a16 a17 a18 a19 a20 a21 a22 a23 a24 a25 a26 a27 a28 a29 a30 a31 a32 a33 a34 a35 a36 a37 a38) 0 (c_X10_allThat l G ad a0 a1 a2 a3 a4 a5 a6 a7 a8 a9 a10 a11 a12 a13 a14 a15 a16 a17 a18 a19 a20 a21 a22 a23 a24 a25 a26 a27 a28 a29 a30 a31 a32 a33 a34 a35 a36 a37 a38 (2 : Int32) (by first | with_reducible assumption | grind) (by first | with_reducible assumption | grind)) gX10_told_X10_allThat rfl (by decide +kernel) ⟨Nat.le_of_ble_eq_true rfl, Nat.le_of_ble_eq_true rfl⟩ 0 rfl rfl rfl rfl (Nat.le_of_ble_eq_true rfl) (Nat.zero_le _) (Nat.zero_le _) dX10_told_104 ?_
    exact s_iret X (pc := 107) (v := rX10_allThat a4 a9 (2 : Int32)) dX10_told_107 (Eq.symm (show rX10_told a0 a2 a4 a8 a9 a12 a26 a31 a34 p0 = rX10_allThat a4 a9 (2 : Int32) from (by unfold rX10_told; exact ((if_neg c1_0).trans ((if_neg c1_1).trans ((if_neg c1_2).trans ((if_neg c1_3).trans ((if_neg c1_4).trans ((if_neg c1_5).trans (if_pos c1_6)))))))))) rfl
  by_cases c1_7 : p0 = 7
  ·
    refine s_tableIn X (pc := 1) (tgt := 108) dX10_told_1 (by rw [c1_7]; decide) (by rw [c1_7]; decide) (by rw [c1_7]; rfl) (by decide) ?_
    refine s_aload_n X (pc := 108) (x := (ad 0)) 0 dX10_told_108 rfl ?_
    refine s_iconst X (pc := 109) (v := 3) dX10_told_109 (by decide) ?_
    refine s_callVi0 X (pc := 110) (r := rX10_allThat a4 a9 (3 : Int32)) (w := wX10 G ad a0 a1 a2 a3 a4 a5 a6 a7 a8 a9 a10 a11 a12 a13 a14 a15 a16 a17 a18 a19 a20 a21 a22 a23 a24 a25 a26 a27 a28 a29 a30 a31 a32 a33 a34 a35 a36 a37 a38) (n := 1) (st := []) (As := [.int (3 : Int32)]) (w2 := wX10 G ad a0 a1 a2 a3 a4 a5 a6 a7 a8 a9 a10 a11 a12 a13 a14 a15 a16 a17 a18 a19 a20 a21 a22 a23 a24 a25 a26 a27 a28 a29 a30 a31 a32 a33 a34 a35 a36 a37 a38) 0 (c_X10_allThat l G ad a0 a1 a2 a3 a4 a5 a6 a7 a8 a9 a10 a11 a12 a13 a14 a15 a16 a17 a18 a19 a20 a21 a22 a23 a24 a25 a26 a27 a28 a29 a30 a31 a32 a33 a34 a35 a36 a37 a38 (3 : Int32) (by first | with_reducible assumption | grind) (by first | with_reducible assumption | grind)) gX10_told_X10_allThat rfl (by decide +kernel) ⟨Nat.le_of_ble_eq_true rfl, Nat.le_of_ble_eq_true rfl⟩ 0 rfl rfl rfl rfl (Nat.le_of_ble_eq_true rfl) (Nat.zero_le _) (Nat.zero_le _) dX10_told_110 ?_
    exact s_iret X (pc := 113) (v := rX10_allThat a4 a9 (3 : Int32)) dX10_told_113 (Eq.symm (show rX10_told a0 a2 a4 a8 a9 a12 a26 a31 a34 p0 = rX10_allThat a4 a9 (3 : Int32) from (by unfold rX10_told; exact ((if_neg c1_0).trans ((if_neg c1_1).trans ((if_neg c1_2).trans ((if_neg c1_3).trans ((if_neg c1_4).trans ((if_neg c1_5).trans ((if_neg c1_6).trans (if_pos c1_7))))))))))) rfl
  by_cases c1_8 : p0 = 8
  ·
    refine s_tableIn X (pc := 1) (tgt := 114) dX10_told_1 (by rw [c1_8]; decide) (by rw [c1_8]; decide) (by rw [c1_8]; rfl) (by decide) ?_
    refine s_aload_n X (pc := 114) (x := (ad 0)) 0 dX10_told_114 rfl ?_
    refine s_iconst X (pc := 115) (v := 4) dX10_told_115 (by decide) ?_
    refine s_callVi0 X (pc := 116) (r := rX10_allThat a4 a9 (4 : Int32)) (w := wX10 G ad a0 a1 a2 a3 a4 a5 a6 a7 a8 a9 a10 a11 a12 a13 a14 a15 a16 a17 a18 a19 a20 a21 a22 a23 a24 a25 a26 a27 a28 a29 a30 a31 a32 a33 a34 a35 a36 a37 a38) (n := 1) (st := []) (As := [.int (4 : Int32)]) (w2 := wX10 G ad a0 a1 a2 a3 a4 a5 a6 a7 a8 a9 a10 a11 a12 a13 a14 a15 a16 a17 a18 a19 a20 a21 a22 a23 a24 a25 a26 a27 a28 a29 a30 a31 a32 a33 a34 a35 a36 a37 a38) 0 (c_X10_allThat l G ad a0 a1 a2 a3 a4 a5 a6 a7 a8 a9 a10 a11 a12 a13 a14 a15 a16 a17 a18 a19 a20 a21 a22 a23 a24 a25 a26 a27 a28 a29 a30 a31 a32 a33 a34 a35 a36 a37 a38 (4 : Int32) (by first | with_reducible assumption | grind) (by first | with_reducible assumption | grind)) gX10_told_X10_allThat rfl (by decide +kernel) ⟨Nat.le_of_ble_eq_true rfl, Nat.le_of_ble_eq_true rfl⟩ 0 rfl rfl rfl rfl (Nat.le_of_ble_eq_true rfl) (Nat.zero_le _) (Nat.zero_le _) dX10_told_116 ?_
    exact s_iret X (pc := 119) (v := rX10_allThat a4 a9 (4 : Int32)) dX10_told_119 (Eq.symm (show rX10_told a0 a2 a4 a8 a9 a12 a26 a31 a34 p0 = rX10_allThat a4 a9 (4 : Int32) from (by unfold rX10_told; exact ((if_neg c1_0).trans ((if_neg c1_1).trans ((if_neg c1_2).trans ((if_neg c1_3).trans ((if_neg c1_4).trans ((if_neg c1_5).trans ((if_neg c1_6).trans ((if_neg c1_7).trans (if_pos c1_8)))))))))))) rfl
  by_cases c1_9 : p0 = 9
  ·
    refine s_tableIn X (pc := 1) (tgt := 120) dX10_told_1 (by rw [c1_9]; decide) (by rw [c1_9]; decide) (by rw [c1_9]; rfl) (by decide) ?_
    refine s_aload_n X (pc := 120) (x := (ad 0)) 0 dX10_told_120 rfl ?_
    refine s_callVi0 X (pc := 121) (r := rX10_owed a4 a8 a9) (w := wX10 G ad a0 a1 a2 a3 a4 a5 a6 a7 a8 a9 a10 a11 a12 a13 a14 a15 a16 a17 a18 a19 a20 a21 a22 a23 a24 a25 a26 a27 a28 a29 a30 a31 a32 a33 a34 a35 a36 a37 a38) (n := 0) (st := []) (As := []) (w2 := wX10 G ad a0 a1 a2 a3 a4 a5 a6 a7 a8 a9 a10 a11 a12 a13 a14 a15 a16 a17 a18 a19 a20 a21 a22 a23 a24 a25 a26 a27 a28 a29 a30 a31 a32 a33 a34 a35 a36 a37 a38) 0 (c_X10_owed l G ad a0 a1 a2 a3 a4 a5 a6 a7 a8 a9 a10 a11 a12 a13 a14 a15 a16 a17 a18 a19 a20 a21 a22 a23 a24 a25 a26 a27 a28 a29 a30 a31 a32 a33 a34 a35 a36 a37 a38 (by first | with_reducible assumption | grind) (by first | with_reducible assumption | grind)) gX10_told_X10_owed rfl (by decide +kernel) ⟨Nat.le_of_ble_eq_true rfl, Nat.le_of_ble_eq_true rfl⟩ 0 rfl rfl rfl rfl (Nat.le_of_ble_eq_true rfl) (Nat.zero_le _) (Nat.zero_le _) dX10_told_121 ?_
    exact s_iret X (pc := 124) (v := rX10_owed a4 a8 a9) dX10_told_124 (Eq.symm (show rX10_told a0 a2 a4 a8 a9 a12 a26 a31 a34 p0 = rX10_owed a4 a8 a9 from (by unfold rX10_told; exact ((if_neg c1_0).trans ((if_neg c1_1).trans ((if_neg c1_2).trans ((if_neg c1_3).trans ((if_neg c1_4).trans ((if_neg c1_5).trans ((if_neg c1_6).trans ((if_neg c1_7).trans ((if_neg c1_8).trans (if_pos c1_9))))))))))))) rfl
  by_cases c1_10 : p0 = 10
  ·
    refine s_tableIn X (pc := 1) (tgt := 125) dX10_told_1 (by rw [c1_10]; decide) (by rw [c1_10]; decide) (by rw [c1_10]; rfl) (by decide) ?_
    refine s_aload_n X (pc := 125) (x := (ad 0)) 0 dX10_told_125 rfl ?_
    refine s_get X (pc := 126) (v := .int a31) iX10_told_X10 0 rfl rfl 31 (by decide) kX10_told_161 rfl rfl dX10_told_126 ?_
    exact s_iret X (pc := 129) (v := a31) dX10_told_129 (Eq.symm (show rX10_told a0 a2 a4 a8 a9 a12 a26 a31 a34 p0 = a31 from (by unfold rX10_told; exact ((if_neg c1_0).trans ((if_neg c1_1).trans ((if_neg c1_2).trans ((if_neg c1_3).trans ((if_neg c1_4).trans ((if_neg c1_5).trans ((if_neg c1_6).trans ((if_neg c1_7).trans ((if_neg c1_8).trans ((if_neg c1_9).trans (if_pos c1_10)))))))))))))) rfl
  by_cases c1_11 : p0 = 11
  ·
    refine s_tableIn X (pc := 1) (tgt := 130) dX10_told_1 (by rw [c1_11]; decide) (by rw [c1_11]; decide) (by rw [c1_11]; rfl) (by decide) ?_
    refine s_aload_n X (pc := 130) (x := (ad 0)) 0 dX10_told_130 rfl ?_
    refine s_get X (pc := 131) (v := .int a34) iX10_told_X10 0 rfl rfl 34 (by decide) kX10_told_164 rfl rfl dX10_told_131 ?_
    exact s_iret X (pc := 134) (v := a34) dX10_told_134 (Eq.symm (show rX10_told a0 a2 a4 a8 a9 a12 a26 a31 a34 p0 = a34 from (by unfold rX10_told; exact ((if_neg c1_0).trans ((if_neg c1_1).trans ((if_neg c1_2).trans ((if_neg c1_3).trans ((if_neg c1_4).trans ((if_neg c1_5).trans ((if_neg c1_6).trans ((if_neg c1_7).trans ((if_neg c1_8).trans ((if_neg c1_9).trans ((if_neg c1_10).trans (if_pos c1_11))))))))))))))) rfl
  by_cases c1_12 : p0 = 12
  ·
    refine s_tableIn X (pc := 1) (tgt := 135) dX10_told_1 (by rw [c1_12]; decide) (by rw [c1_12]; decide) (by rw [c1_12]; rfl) (by decide) ?_
    refine s_aload_n X (pc := 135) (x := (ad 0)) 0 dX10_told_135 rfl ?_
    refine s_get X (pc := 136) (v := .int a26) iX10_told_X10 0 rfl rfl 26 (by decide) kX10_told_167 rfl rfl dX10_told_136 ?_
    exact s_iret X (pc := 139) (v := a26) dX10_told_139 (Eq.symm (show rX10_told a0 a2 a4 a8 a9 a12 a26 a31 a34 p0 = a26 from (by unfold rX10_told; exact ((if_neg c1_0).trans ((if_neg c1_1).trans ((if_neg c1_2).trans ((if_neg c1_3).trans ((if_neg c1_4).trans ((if_neg c1_5).trans ((if_neg c1_6).trans ((if_neg c1_7).trans ((if_neg c1_8).trans ((if_neg c1_9).trans ((if_neg c1_10).trans ((if_neg c1_11).trans (if_pos c1_12)))))))))))))))) rfl
  refine s_tableOut X (pc := 1) (tgt := 140) dX10_told_1 (sw_out12 c1_0 c1_1 c1_2 c1_3 c1_4 c1_5 c1_6 c1_7 c1_8 c1_9 c1_10 c1_11 c1_12) (by decide) ?_
  refine s_ldc X (pc := 140) (v := -1000000002) kX10_told_c101 dX10_told_140 ?_
  exact s_iret X (pc := 142) (v := (-1000000002 : Int32)) dX10_told_142 (Eq.symm (show rX10_told a0 a2 a4 a8 a9 a12 a26 a31 a34 p0 = (-1000000002 : Int32) from (by unfold rX10_told; exact ((if_neg c1_0).trans ((if_neg c1_1).trans ((if_neg c1_2).trans ((if_neg c1_3).trans ((if_neg c1_4).trans ((if_neg c1_5).trans ((if_neg c1_6).trans ((if_neg c1_7).trans ((if_neg c1_8).trans ((if_neg c1_9).trans ((if_neg c1_10).trans ((if_neg c1_11).trans (if_neg c1_12)))))))))))))))) rfl

theorem iX10_depthBehind_X10 : ∀ z ∈ wsX100, z ∈ wsX10_depthBehind := fun z h => List.mem_cons_of_mem _ (List.mem_append_right _ h)
theorem kX10_depthBehind_7 : Cond.fieldLink RX10 7 "BathingCourtModel" (TX10 1).2.1 (TX10 1).2.2.1 ∈ wsX10_depthBehind := List.mem_of_getElem? (i := 1) rfl
theorem kX10_depthBehind_28 : Cond.fieldLink RX10 28 "BathingCourtModel" (TX10 9).2.1 (TX10 9).2.2.1 ∈ wsX10_depthBehind := List.mem_of_getElem? (i := 2) rfl
theorem kX10_depthBehind_152 : Cond.fieldLink RX10 152 "BathingCourtModel" (TX10 0).2.1 (TX10 0).2.2.1 ∈ wsX10_depthBehind := List.mem_of_getElem? (i := 3) rfl
def rX10_depthBehind (a0 : Int32) (a1 a9 : Nat → Int32) (p0 p1 : Int32) : Int32 := if ((p0 + (1 : Int32)) - (a1 (((a9 22) + p1) - ((a9 22) + p1) / a0 * a0).toNatClampNeg)) ≤ 0 then (0 : Int32) else ((p0 + (1 : Int32)) - (a1 (((a9 22) + p1) - ((a9 22) + p1) / a0 * a0).toNatClampNeg))
set_option maxRecDepth 100000 in
set_option maxHeartbeats 4000000 in
theorem c_X10_depthBehind (l : Launch) (G : GT) (ad : Nat → Nat) (a0 : Int32) (a1 : Nat → Int32) (a2 : Int32) (a3 : Nat → Int32) (a4 : Int32) (a5 a6 a7 a8 a9 : Nat → Int32) (a10 : Int32) (a11 : Nat → Int32) (a12 a13 a14 a15 a16 a17 : Int32) (a18 : Nat → Int32) (a19 : Int32) (a20 : Nat → Int32) (a21 : Int32) (a22 a23 a24 a25 : Nat → Int32) (a26 : Int32) (a27 a28 a29 a30 : Nat → Int32) (a31 : Int32) (a32 a33 : Nat → Int32) (a34 : Int32) (a35 a36 a37 a38 : Nat → Int32) (p0 p1 : Int32) (tp : 0 < a0) (t12 : a0 ≤ 12) (hs : 0 ≤ a9 22 + p1) : Ci l G yX10_depthBehind wsX10_depthBehind (rmL 0) [.ref (ad 0), .int p0, .int p1] (wX10 G ad a0 a1 a2 a3 a4 a5 a6 a7 a8 a9 a10 a11 a12 a13 a14 a15 a16 a17 a18 a19 a20 a21 a22 a23 a24 a25 a26 a27 a28 a29 a30 a31 a32 a33 a34 a35 a36 a37 a38) (rX10_depthBehind a0 a1 a9 p0 p1) (wX10 G ad a0 a1 a2 a3 a4 a5 a6 a7 a8 a9 a10 a11 a12 a13 a14 a15 a16 a17 a18 a19 a20 a21 a22 a23 a24 a25 a26 a27 a28 a29 a30 a31 a32 a33 a34 a35 a36 a37 a38) := by
  refine ci_start .int (by decide) rfl rfl (Nat.le_of_ble_eq_true rfl) ?_
  intro p e s m args below meth c A X
  refine s_perm (lv2 := [(0, .ref (ad 0)), (1, .int p0), (2, .int p1)]) [0, 1, 2] rfl ?_
  refine s_iload_n X (pc := 0) (x := p0) 1 dX10_depthBehind_0 rfl ?_
  refine s_iconst X (pc := 1) (v := 1) dX10_depthBehind_1 (by decide) ?_
  refine s_iadd X (pc := 2) dX10_depthBehind_2 ?_
  refine s_aload_n X (pc := 3) (x := (ad 0)) 0 dX10_depthBehind_3 rfl ?_
  refine s_get X (pc := 4) (v := .ref (ad 2)) iX10_depthBehind_X10 0 rfl rfl 1 (by decide) kX10_depthBehind_7 rfl rfl dX10_depthBehind_4 ?_
  refine s_aload_n X (pc := 7) (x := (ad 0)) 0 dX10_depthBehind_7 rfl ?_
  refine s_get X (pc := 8) (v := .ref (ad 10)) iX10_depthBehind_X10 0 rfl rfl 9 (by decide) kX10_depthBehind_28 rfl rfl dX10_depthBehind_8 ?_
  refine s_bipush X (pc := 11) (v := 22) dX10_depthBehind_11 (by decide) ?_
  refine s_iald X (pc := 13) (n := 23) (f := a9) 7 rfl (vp_in_iff.mpr (by decide)) dX10_depthBehind_13 ?_
  refine s_topeq (y := a9 22) rfl ?_
  refine s_iload_n X (pc := 14) (x := p1) 2 dX10_depthBehind_14 rfl ?_
  refine s_iadd X (pc := 15) dX10_depthBehind_15 ?_
  refine s_aload_n X (pc := 16) (x := (ad 0)) 0 dX10_depthBehind_16 rfl ?_
  refine s_get X (pc := 17) (v := .int a0) iX10_depthBehind_X10 0 rfl rfl 0 (by decide) kX10_depthBehind_152 rfl rfl dX10_depthBehind_17 ?_
  refine s_irem X (pc := 20) dX10_depthBehind_20 (by grind) ?_
  refine s_iald X (pc := 21) (n := 12) (f := a1) 1 rfl (vrem (b := 12) rfl t12 tp hs) dX10_depthBehind_21 ?_
  refine s_isub X (pc := 22) dX10_depthBehind_22 ?_
  refine s_istore_n X (pc := 23) (i := 3) (lv2 := [(3, .int ((p0 + (1 : Int32)) - (a1 (((a9 22) + p1) - ((a9 22) + p1) / a0 * a0).toNatClampNeg))), (0, .ref (ad 0)), (1, .int p0), (2, .int p1)]) dX10_depthBehind_23 rfl (by decide) rfl ?_
  refine s_iload_n X (pc := 24) (x := (p0 + (1 : Int32)) - (a1 (((a9 22) + p1) - ((a9 22) + p1) / a0 * a0).toNatClampNeg)) 0 dX10_depthBehind_24 rfl ?_
  refine s_if_le X (pc := 25) (tgt := 32) dX10_depthBehind_25 (by decide) (fun c25 => ?_) (fun c25 => ?_)
  ·
    refine s_iconst X (pc := 32) (v := 0) dX10_depthBehind_32 (by decide) ?_
    exact s_iret X (pc := 33) (v := (0 : Int32)) dX10_depthBehind_33 (Eq.symm (show rX10_depthBehind a0 a1 a9 p0 p1 = (0 : Int32) from (by unfold rX10_depthBehind; exact (if_pos c25)))) rfl
  ·
    refine s_iload_n X (pc := 28) (x := (p0 + (1 : Int32)) - (a1 (((a9 22) + p1) - ((a9 22) + p1) / a0 * a0).toNatClampNeg)) 0 dX10_depthBehind_28 rfl ?_
    refine s_goto X (pc := 29) (tgt := 33) dX10_depthBehind_29 (by decide) ?_
    exact s_iret X (pc := 33) (v := (p0 + (1 : Int32)) - (a1 (((a9 22) + p1) - ((a9 22) + p1) / a0 * a0).toNatClampNeg)) dX10_depthBehind_33 (Eq.symm (show rX10_depthBehind a0 a1 a9 p0 p1 = (p0 + (1 : Int32)) - (a1 (((a9 22) + p1) - ((a9 22) + p1) / a0 * a0).toNatClampNeg) from (by unfold rX10_depthBehind; exact (if_neg c25)))) rfl

theorem iX10_depth_X10 : ∀ z ∈ wsX100, z ∈ wsX10_depth := fun z h => List.mem_cons_of_mem _ (List.mem_append_right _ h)
theorem kX10_depth_c101 : Jvm.Cond.constant RX10 101 (-1000000002) ∈ wsX10_depth := List.mem_of_getElem? (i := 2) rfl
theorem kX10_depth_l181 : Jvm.Cond.constantLong RX10 181 (99) ∈ wsX10_depth := List.mem_of_getElem? (i := 1) rfl
theorem kX10_depth_152 : Cond.fieldLink RX10 152 "BathingCourtModel" (TX10 0).2.1 (TX10 0).2.2.1 ∈ wsX10_depth := List.mem_of_getElem? (i := 3) rfl
theorem kX10_depth_c183 : Jvm.Cond.constant RX10 183 (-1000000003) ∈ wsX10_depth := List.mem_of_getElem? (i := 4) rfl
def rX10_depth (a0 : Int32) (a1 a9 : Nat → Int32) (p0 p1 : Int32) : Int32 := if (rX10_isCell p0) = 0 then (-1000000002 : Int32) else (if (rX10_in p1.toInt64 (0 : Int64) (99 : Int64)) = 0 then (-1000000002 : Int32) else (if a0 = 0 then (-1000000003 : Int32) else (rX10_depthBehind a0 a1 a9 p0 p1)))
set_option maxRecDepth 100000 in
set_option maxHeartbeats 4000000 in
theorem c_X10_depth (l : Launch) (G : GT) (ad : Nat → Nat) (a0 : Int32) (a1 : Nat → Int32) (a2 : Int32) (a3 : Nat → Int32) (a4 : Int32) (a5 a6 a7 a8 a9 : Nat → Int32) (a10 : Int32) (a11 : Nat → Int32) (a12 a13 a14 a15 a16 a17 : Int32) (a18 : Nat → Int32) (a19 : Int32) (a20 : Nat → Int32) (a21 : Int32) (a22 a23 a24 a25 : Nat → Int32) (a26 : Int32) (a27 a28 a29 a30 : Nat → Int32) (a31 : Int32) (a32 a33 : Nat → Int32) (a34 : Int32) (a35 a36 a37 a38 : Nat → Int32) (p0 p1 : Int32) (t0 : 0 ≤ a0) (t12 : a0 ≤ 12) (n0 : 0 ≤ a9 22) (n9 : a9 22 ≤ 9060) : Ci l G yX10_depth wsX10_depth (rmL 2) [.ref (ad 0), .int p0, .int p1] (wX10 G ad a0 a1 a2 a3 a4 a5 a6 a7 a8 a9 a10 a11 a12 a13 a14 a15 a16 a17 a18 a19 a20 a21 a22 a23 a24 a25 a26 a27 a28 a29 a30 a31 a32 a33 a34 a35 a36 a37 a38) (rX10_depth a0 a1 a9 p0 p1) (wX10 G ad a0 a1 a2 a3 a4 a5 a6 a7 a8 a9 a10 a11 a12 a13 a14 a15 a16 a17 a18 a19 a20 a21 a22 a23 a24 a25 a26 a27 a28 a29 a30 a31 a32 a33 a34 a35 a36 a37 a38) := by
  refine ci_start .int (by decide) rfl rfl (Nat.le_of_ble_eq_true rfl) ?_
  intro p e s m args below meth c A X
  refine s_perm (lv2 := [(0, .ref (ad 0)), (1, .int p0), (2, .int p1)]) [0, 1, 2] rfl ?_
  refine s_iload_n X (pc := 0) (x := p0) 1 dX10_depth_0 rfl ?_
  refine s_callSiN X (pc := 1) (r := rX10_isCell p0) (n := 1) (st := []) (As := [.int p0]) 1 (c_X10_isCell l G p0) gX10_depth_X10_isCell rfl (by decide +kernel) ⟨Nat.le_of_ble_eq_true rfl, Nat.le_of_ble_eq_true rfl⟩ rfl rfl (Nat.le_of_ble_eq_true rfl) (Nat.zero_le _) (Nat.zero_le _) dX10_depth_1 ?_
  refine s_if_eq X (pc := 4) (tgt := 19) dX10_depth_4 (by decide) (fun c4 => ?_) (fun c4 => ?_)
  ·
    refine s_ldc X (pc := 19) (v := -1000000002) kX10_depth_c101 dX10_depth_19 ?_
    exact s_iret X (pc := 21) (v := (-1000000002 : Int32)) dX10_depth_21 (Eq.symm (show rX10_depth a0 a1 a9 p0 p1 = (-1000000002 : Int32) from (by unfold rX10_depth; exact (if_pos c4)))) rfl
  ·
    refine s_iload_n X (pc := 7) (x := p1) 2 dX10_depth_7 rfl ?_
    refine s_i2l X (pc := 8) dX10_depth_8 ?_
    refine s_lconst X (pc := 9) (v := 0) dX10_depth_9 (by decide) ?_
    refine s_ldc2 X (pc := 10) (v := 99) kX10_depth_l181 dX10_depth_10 ?_
    refine s_callSiN X (pc := 13) (r := rX10_in p1.toInt64 (0 : Int64) (99 : Int64)) (n := 3) (st := []) (As := [.long p1.toInt64, .long (0 : Int64), .long (99 : Int64)]) 0 (c_X10_in l G p1.toInt64 (0 : Int64) (99 : Int64)) gX10_depth_X10_in rfl (by decide +kernel) ⟨Nat.le_of_ble_eq_true rfl, Nat.le_of_ble_eq_true rfl⟩ rfl rfl (Nat.le_of_ble_eq_true rfl) (Nat.zero_le _) (Nat.zero_le _) dX10_depth_13 ?_
    refine s_if_ne X (pc := 16) (tgt := 22) dX10_depth_16 (by decide) (fun c16 => ?_) (fun c16 => ?_)
    ·
      have q16 := inI 0 99 rfl rfl c16
      refine s_aload_n X (pc := 22) (x := (ad 0)) 0 dX10_depth_22 rfl ?_
      refine s_get X (pc := 23) (v := .int a0) iX10_depth_X10 0 rfl rfl 0 (by decide) kX10_depth_152 rfl rfl dX10_depth_23 ?_
      refine s_if_ne X (pc := 26) (tgt := 34) dX10_depth_26 (by decide) (fun c26 => ?_) (fun c26 => ?_)
      ·
        refine s_aload_n X (pc := 34) (x := (ad 0)) 0 dX10_depth_34 rfl ?_
        refine s_iload_n X (pc := 35) (x := p0) 1 dX10_depth_35 rfl ?_
        refine s_iload_n X (pc := 36) (x := p1) 2 dX10_depth_36 rfl ?_
        refine s_callVi0 X (pc := 37) (r := rX10_depthBehind a0 a1 a9 p0 p1) (w := wX10 G ad a0 a1 a2 a3 a4 a5 a6 a7 a8 a9 a10 a11 a12 a13 a14 a15 a16 a17 a18 a19 a20 a21 a22 a23 a24 a25 a26 a27 a28 a29 a30 a31 a32 a33 a34 a35 a36 a37 a38) (n := 2) (st := []) (As := [.int p0, .int p1]) (w2 := wX10 G ad a0 a1 a2 a3 a4 a5 a6 a7 a8 a9 a10 a11 a12 a13 a14 a15 a16 a17 a18 a19 a20 a21 a22 a23 a24 a25 a26 a27 a28 a29 a30 a31 a32 a33 a34 a35 a36 a37 a38) 0 (c_X10_depthBehind l G ad a0 a1 a2 a3 a4 a5 a6 a7 a8 a9 a10 a11 a12 a13 a14 a15 a16 a17 a18 a19 a20 a21 a22 a23 a24 a25 a26 a27 a28 a29 a30 a31 a32 a33 a34 a35 a36 a37 a38 p0 p1 (by grind) t12 (by grind)) gX10_depth_X10_depthBehind rfl (by decide +kernel) ⟨Nat.le_of_ble_eq_true rfl, Nat.le_of_ble_eq_true rfl⟩ 0 rfl rfl rfl rfl (Nat.le_of_ble_eq_true rfl) (Nat.zero_le _) (Nat.zero_le _) dX10_depth_37 ?_
        exact s_iret X (pc := 40) (v := rX10_depthBehind a0 a1 a9 p0 p1) dX10_depth_40 (Eq.symm (show rX10_depth a0 a1 a9 p0 p1 = rX10_depthBehind a0 a1 a9 p0 p1 from (by unfold rX10_depth; exact ((if_neg c4).trans ((if_neg c16).trans (if_neg c26)))))) rfl
      ·
        refine s_ldc X (pc := 29) (v := -1000000003) kX10_depth_c183 dX10_depth_29 ?_
        refine s_goto X (pc := 31) (tgt := 40) dX10_depth_31 (by decide) ?_
        exact s_iret X (pc := 40) (v := (-1000000003 : Int32)) dX10_depth_40 (Eq.symm (show rX10_depth a0 a1 a9 p0 p1 = (-1000000003 : Int32) from (by unfold rX10_depth; exact ((if_neg c4).trans ((if_neg c16).trans (if_pos c26)))))) rfl
    ·
      refine s_ldc X (pc := 19) (v := -1000000002) kX10_depth_c101 dX10_depth_19 ?_
      exact s_iret X (pc := 21) (v := (-1000000002 : Int32)) dX10_depth_21 (Eq.symm (show rX10_depth a0 a1 a9 p0 p1 = (-1000000002 : Int32) from (by unfold rX10_depth; exact ((if_neg c4).trans (if_pos c16))))) rfl

theorem iX10_hut_X10 : ∀ z ∈ wsX100, z ∈ wsX10_hut := fun z h => List.mem_cons_of_mem _ (List.mem_append_right _ h)
theorem kX10_hut_13 : Cond.fieldLink RX10 13 "BathingCourtModel" (TX10 3).2.1 (TX10 3).2.2.1 ∈ wsX10_hut := List.mem_of_getElem? (i := 2) rfl
theorem kX10_hut_28 : Cond.fieldLink RX10 28 "BathingCourtModel" (TX10 9).2.1 (TX10 9).2.2.1 ∈ wsX10_hut := List.mem_of_getElem? (i := 3) rfl
theorem kX10_hut_c101 : Jvm.Cond.constant RX10 101 (-1000000002) ∈ wsX10_hut := List.mem_of_getElem? (i := 4) rfl
theorem kX10_hut_c190 : Jvm.Cond.constant RX10 190 (-1000000001) ∈ wsX10_hut := List.mem_of_getElem? (i := 1) rfl
def rX10_hut (a2 : Int32) (a3 a9 : Nat → Int32) (p0 p1 : Int32) : Int32 := if (rX10_isHut a2 p0) = 0 then (-1000000001 : Int32) else (if p1 = 0 then (a3 p0.toNatClampNeg) else (if p1 = 1 then (a9 p0.toNatClampNeg) else (if p1 = 2 then (a9 ((4 : Int32) + p0).toNatClampNeg) else (if p1 = 3 then (a9 ((8 : Int32) + p0).toNatClampNeg) else (-1000000002 : Int32)))))
set_option maxRecDepth 100000 in
set_option maxHeartbeats 4000000 in
theorem c_X10_hut (l : Launch) (G : GT) (ad : Nat → Nat) (a0 : Int32) (a1 : Nat → Int32) (a2 : Int32) (a3 : Nat → Int32) (a4 : Int32) (a5 a6 a7 a8 a9 : Nat → Int32) (a10 : Int32) (a11 : Nat → Int32) (a12 a13 a14 a15 a16 a17 : Int32) (a18 : Nat → Int32) (a19 : Int32) (a20 : Nat → Int32) (a21 : Int32) (a22 a23 a24 a25 : Nat → Int32) (a26 : Int32) (a27 a28 a29 a30 : Nat → Int32) (a31 : Int32) (a32 a33 : Nat → Int32) (a34 : Int32) (a35 a36 a37 a38 : Nat → Int32) (p0 p1 : Int32) (h0 : 0 ≤ a2) (h4 : a2 ≤ 4) : Ci l G yX10_hut wsX10_hut (rmL 2) [.ref (ad 0), .int p0, .int p1] (wX10 G ad a0 a1 a2 a3 a4 a5 a6 a7 a8 a9 a10 a11 a12 a13 a14 a15 a16 a17 a18 a19 a20 a21 a22 a23 a24 a25 a26 a27 a28 a29 a30 a31 a32 a33 a34 a35 a36 a37 a38) (rX10_hut a2 a3 a9 p0 p1) (wX10 G ad a0 a1 a2 a3 a4 a5 a6 a7 a8 a9 a10 a11 a12 a13 a14 a15 a16 a17 a18 a19 a20 a21 a22 a23 a24 a25 a26 a27 a28 a29 a30 a31 a32 a33 a34 a35 a36 a37 a38) := by
  refine ci_start .int (by decide) rfl rfl (Nat.le_of_ble_eq_true rfl) ?_
  intro p e s m args below meth c A X
  refine s_perm (lv2 := [(0, .ref (ad 0)), (1, .int p0), (2, .int p1)]) [0, 1, 2] rfl ?_
  refine s_aload_n X (pc := 0) (x := (ad 0)) 0 dX10_hut_0 rfl ?_
  refine s_iload_n X (pc := 1) (x := p0) 1 dX10_hut_1 rfl ?_
  refine s_callVi0 X (pc := 2) (r := rX10_isHut a2 p0) (w := wX10 G ad a0 a1 a2 a3 a4 a5 a6 a7 a8 a9 a10 a11 a12 a13 a14 a15 a16 a17 a18 a19 a20 a21 a22 a23 a24 a25 a26 a27 a28 a29 a30 a31 a32 a33 a34 a35 a36 a37 a38) (n := 1) (st := []) (As := [.int p0]) (w2 := wX10 G ad a0 a1 a2 a3 a4 a5 a6 a7 a8 a9 a10 a11 a12 a13 a14 a15 a16 a17 a18 a19 a20 a21 a22 a23 a24 a25 a26 a27 a28 a29 a30 a31 a32 a33 a34 a35 a36 a37 a38) 1 (c_X10_isHut l G ad a0 a1 a2 a3 a4 a5 a6 a7 a8 a9 a10 a11 a12 a13 a14 a15 a16 a17 a18 a19 a20 a21 a22 a23 a24 a25 a26 a27 a28 a29 a30 a31 a32 a33 a34 a35 a36 a37 a38 p0) gX10_hut_X10_isHut rfl (by decide +kernel) ⟨Nat.le_of_ble_eq_true rfl, Nat.le_of_ble_eq_true rfl⟩ 0 rfl rfl rfl rfl (Nat.le_of_ble_eq_true rfl) (Nat.zero_le _) (Nat.zero_le _) dX10_hut_2 ?_
  refine s_if_ne X (pc := 5) (tgt := 11) dX10_hut_5 (by decide) (fun c5 => ?_) (fun c5 => ?_)
  ·
    have q5 := isHut_in h0 h4 c5
    refine s_iload_n X (pc := 11) (x := p1) 2 dX10_hut_11 rfl ?_
    by_cases c12_0 : p1 = 0
    ·
      refine s_tableIn X (pc := 12) (tgt := 44) dX10_hut_12 (by rw [c12_0]; decide) (by rw [c12_0]; decide) (by rw [c12_0]; rfl) (by decide) ?_
      refine s_aload_n X (pc := 44) (x := (ad 0)) 0 dX10_hut_44 rfl ?_
      refine s_get X (pc := 45) (v := .ref (ad 4)) iX10_hut_X10 0 rfl rfl 3 (by decide) kX10_hut_13 rfl rfl dX10_hut_45 ?_
      refine s_iload_n X (pc := 48) (x := p0) 1 dX10_hut_48 rfl ?_
      refine s_iald X (pc := 49) (n := 4) (f := a3) 2 rfl (by first | with_reducible assumption | exact vin (b := 4) rfl (by grind) (by grind)) dX10_hut_49 ?_
      exact s_iret X (pc := 50) (v := a3 p0.toNatClampNeg) dX10_hut_50 (Eq.symm (show rX10_hut a2 a3 a9 p0 p1 = a3 p0.toNatClampNeg from (by unfold rX10_hut; exact ((if_neg c5).trans (if_pos c12_0))))) rfl
    by_cases c12_1 : p1 = 1
    ·
      refine s_tableIn X (pc := 12) (tgt := 51) dX10_hut_12 (by rw [c12_1]; decide) (by rw [c12_1]; decide) (by rw [c12_1]; rfl) (by decide) ?_
      refine s_aload_n X (pc := 51) (x := (ad 0)) 0 dX10_hut_51 rfl ?_
      refine s_get X (pc := 52) (v := .ref (ad 10)) iX10_hut_X10 0 rfl rfl 9 (by decide) kX10_hut_28 rfl rfl dX10_hut_52 ?_
      refine s_iload_n X (pc := 55) (x := p0) 1 dX10_hut_55 rfl ?_
      refine s_iald X (pc := 56) (n := 23) (f := a9) 7 rfl (by first | with_reducible assumption | exact vin (b := 23) rfl (by grind) (by grind)) dX10_hut_56 ?_
      exact s_iret X (pc := 57) (v := a9 p0.toNatClampNeg) dX10_hut_57 (Eq.symm (show rX10_hut a2 a3 a9 p0 p1 = a9 p0.toNatClampNeg from (by unfold rX10_hut; exact ((if_neg c5).trans ((if_neg c12_0).trans (if_pos c12_1)))))) rfl
    by_cases c12_2 : p1 = 2
    ·
      refine s_tableIn X (pc := 12) (tgt := 58) dX10_hut_12 (by rw [c12_2]; decide) (by rw [c12_2]; decide) (by rw [c12_2]; rfl) (by decide) ?_
      refine s_aload_n X (pc := 58) (x := (ad 0)) 0 dX10_hut_58 rfl ?_
      refine s_get X (pc := 59) (v := .ref (ad 10)) iX10_hut_X10 0 rfl rfl 9 (by decide) kX10_hut_28 rfl rfl dX10_hut_59 ?_
      refine s_iconst X (pc := 62) (v := 4) dX10_hut_62 (by decide) ?_
      refine s_iload_n X (pc := 63) (x := p0) 1 dX10_hut_63 rfl ?_
      refine s_iadd X (pc := 64) dX10_hut_64 ?_
      refine s_iald X (pc := 65) (n := 23) (f := a9) 7 rfl (by first | with_reducible assumption | exact vin (b := 23) rfl (by grind) (by grind)) dX10_hut_65 ?_
      exact s_iret X (pc := 66) (v := a9 ((4 : Int32) + p0).toNatClampNeg) dX10_hut_66 (Eq.symm (show rX10_hut a2 a3 a9 p0 p1 = a9 ((4 : Int32) + p0).toNatClampNeg from (by unfold rX10_hut; exact ((if_neg c5).trans ((if_neg c12_0).trans ((if_neg c12_1).trans (if_pos c12_2))))))) rfl
    by_cases c12_3 : p1 = 3
    ·
      refine s_tableIn X (pc := 12) (tgt := 67) dX10_hut_12 (by rw [c12_3]; decide) (by rw [c12_3]; decide) (by rw [c12_3]; rfl) (by decide) ?_
      refine s_aload_n X (pc := 67) (x := (ad 0)) 0 dX10_hut_67 rfl ?_
      refine s_get X (pc := 68) (v := .ref (ad 10)) iX10_hut_X10 0 rfl rfl 9 (by decide) kX10_hut_28 rfl rfl dX10_hut_68 ?_
      refine s_bipush X (pc := 71) (v := 8) dX10_hut_71 (by decide) ?_
      refine s_iload_n X (pc := 73) (x := p0) 1 dX10_hut_73 rfl ?_
      refine s_iadd X (pc := 74) dX10_hut_74 ?_
      refine s_iald X (pc := 75) (n := 23) (f := a9) 7 rfl (by first | with_reducible assumption | exact vin (b := 23) rfl (by grind) (by grind)) dX10_hut_75 ?_
      exact s_iret X (pc := 76) (v := a9 ((8 : Int32) + p0).toNatClampNeg) dX10_hut_76 (Eq.symm (show rX10_hut a2 a3 a9 p0 p1 = a9 ((8 : Int32) + p0).toNatClampNeg from (by unfold rX10_hut; exact ((if_neg c5).trans ((if_neg c12_0).trans ((if_neg c12_1).trans ((if_neg c12_2).trans (if_pos c12_3)))))))) rfl
    refine s_tableOut X (pc := 12) (tgt := 77) dX10_hut_12 (sw_out3 c12_0 c12_1 c12_2 c12_3) (by decide) ?_
    refine s_ldc X (pc := 77) (v := -1000000002) kX10_hut_c101 dX10_hut_77 ?_
    exact s_iret X (pc := 79) (v := (-1000000002 : Int32)) dX10_hut_79 (Eq.symm (show rX10_hut a2 a3 a9 p0 p1 = (-1000000002 : Int32) from (by unfold rX10_hut; exact ((if_neg c5).trans ((if_neg c12_0).trans ((if_neg c12_1).trans ((if_neg c12_2).trans (if_neg c12_3)))))))) rfl
  ·
    refine s_ldc X (pc := 8) (v := -1000000001) kX10_hut_c190 dX10_hut_8 ?_
    exact s_iret X (pc := 10) (v := (-1000000001 : Int32)) dX10_hut_10 (Eq.symm (show rX10_hut a2 a3 a9 p0 p1 = (-1000000001 : Int32) from (by unfold rX10_hut; exact (if_pos c5)))) rfl

theorem iX10_legal_X10 : ∀ z ∈ wsX100, z ∈ wsX10_legal := fun z h => List.mem_cons_of_mem _ (List.mem_append_right _ h)
theorem kX10_legal_16 : Cond.fieldLink RX10 16 "BathingCourtModel" (TX10 5).2.1 (TX10 5).2.2.1 ∈ wsX10_legal := List.mem_of_getElem? (i := 2) rfl
theorem kX10_legal_19 : Cond.fieldLink RX10 19 "BathingCourtModel" (TX10 6).2.1 (TX10 6).2.2.1 ∈ wsX10_legal := List.mem_of_getElem? (i := 3) rfl
theorem kX10_legal_22 : Cond.fieldLink RX10 22 "BathingCourtModel" (TX10 7).2.1 (TX10 7).2.2.1 ∈ wsX10_legal := List.mem_of_getElem? (i := 4) rfl
theorem kX10_legal_25 : Cond.fieldLink RX10 25 "BathingCourtModel" (TX10 8).2.1 (TX10 8).2.2.1 ∈ wsX10_legal := List.mem_of_getElem? (i := 5) rfl
theorem kX10_legal_28 : Cond.fieldLink RX10 28 "BathingCourtModel" (TX10 9).2.1 (TX10 9).2.2.1 ∈ wsX10_legal := List.mem_of_getElem? (i := 6) rfl
theorem kX10_legal_c101 : Jvm.Cond.constant RX10 101 (-1000000002) ∈ wsX10_legal := List.mem_of_getElem? (i := 7) rfl
theorem kX10_legal_c190 : Jvm.Cond.constant RX10 190 (-1000000001) ∈ wsX10_legal := List.mem_of_getElem? (i := 1) rfl
def rX10_legal (a4 : Int32) (a5 a6 a7 a8 a9 : Nat → Int32) (p0 p1 : Int32) : Int32 := if (rX10_isCase a4 p0) = 0 then (-1000000001 : Int32) else (if p1 = 0 then (a5 p0.toNatClampNeg) else (if p1 = 1 then (a6 p0.toNatClampNeg) else (if p1 = 2 then (a7 p0.toNatClampNeg) else (if p1 = 3 then (a8 p0.toNatClampNeg) else (if p1 = 4 then (a9 ((12 : Int32) + p0).toNatClampNeg) else (if p1 = 5 then (a9 ((17 : Int32) + p0).toNatClampNeg) else (-1000000002 : Int32)))))))
set_option maxRecDepth 100000 in
set_option maxHeartbeats 4000000 in
theorem c_X10_legal (l : Launch) (G : GT) (ad : Nat → Nat) (a0 : Int32) (a1 : Nat → Int32) (a2 : Int32) (a3 : Nat → Int32) (a4 : Int32) (a5 a6 a7 a8 a9 : Nat → Int32) (a10 : Int32) (a11 : Nat → Int32) (a12 a13 a14 a15 a16 a17 : Int32) (a18 : Nat → Int32) (a19 : Int32) (a20 : Nat → Int32) (a21 : Int32) (a22 a23 a24 a25 : Nat → Int32) (a26 : Int32) (a27 a28 a29 a30 : Nat → Int32) (a31 : Int32) (a32 a33 : Nat → Int32) (a34 : Int32) (a35 a36 a37 a38 : Nat → Int32) (p0 p1 : Int32) (ca : 0 ≤ a4) (cb : a4 ≤ 5) : Ci l G yX10_legal wsX10_legal (rmL 2) [.ref (ad 0), .int p0, .int p1] (wX10 G ad a0 a1 a2 a3 a4 a5 a6 a7 a8 a9 a10 a11 a12 a13 a14 a15 a16 a17 a18 a19 a20 a21 a22 a23 a24 a25 a26 a27 a28 a29 a30 a31 a32 a33 a34 a35 a36 a37 a38) (rX10_legal a4 a5 a6 a7 a8 a9 p0 p1) (wX10 G ad a0 a1 a2 a3 a4 a5 a6 a7 a8 a9 a10 a11 a12 a13 a14 a15 a16 a17 a18 a19 a20 a21 a22 a23 a24 a25 a26 a27 a28 a29 a30 a31 a32 a33 a34 a35 a36 a37 a38) := by
  refine ci_start .int (by decide) rfl rfl (Nat.le_of_ble_eq_true rfl) ?_
  intro p e s m args below meth c A X
  refine s_perm (lv2 := [(0, .ref (ad 0)), (1, .int p0), (2, .int p1)]) [0, 1, 2] rfl ?_
  refine s_aload_n X (pc := 0) (x := (ad 0)) 0 dX10_legal_0 rfl ?_
  refine s_iload_n X (pc := 1) (x := p0) 1 dX10_legal_1 rfl ?_
  refine s_callVi0 X (pc := 2) (r := rX10_isCase a4 p0) (w := wX10 G ad a0 a1 a2 a3 a4 a5 a6 a7 a8 a9 a10 a11 a12 a13 a14 a15 a16 a17 a18 a19 a20 a21 a22 a23 a24 a25 a26 a27 a28 a29 a30 a31 a32 a33 a34 a35 a36 a37 a38) (n := 1) (st := []) (As := [.int p0]) (w2 := wX10 G ad a0 a1 a2 a3 a4 a5 a6 a7 a8 a9 a10 a11 a12 a13 a14 a15 a16 a17 a18 a19 a20 a21 a22 a23 a24 a25 a26 a27 a28 a29 a30 a31 a32 a33 a34 a35 a36 a37 a38) 1 (c_X10_isCase l G ad a0 a1 a2 a3 a4 a5 a6 a7 a8 a9 a10 a11 a12 a13 a14 a15 a16 a17 a18 a19 a20 a21 a22 a23 a24 a25 a26 a27 a28 a29 a30 a31 a32 a33 a34 a35 a36 a37 a38 p0) gX10_legal_X10_isCase rfl (by decide +kernel) ⟨Nat.le_of_ble_eq_true rfl, Nat.le_of_ble_eq_true rfl⟩ 0 rfl rfl rfl rfl (Nat.le_of_ble_eq_true rfl) (Nat.zero_le _) (Nat.zero_le _) dX10_legal_2 ?_
  refine s_if_ne X (pc := 5) (tgt := 11) dX10_legal_5 (by decide) (fun c5 => ?_) (fun c5 => ?_)
  ·
    have q5 := isCase_in ca cb c5
    refine s_iload_n X (pc := 11) (x := p1) 2 dX10_legal_11 rfl ?_
    by_cases c12_0 : p1 = 0
    ·
      refine s_tableIn X (pc := 12) (tgt := 52) dX10_legal_12 (by rw [c12_0]; decide) (by rw [c12_0]; decide) (by rw [c12_0]; rfl) (by decide) ?_
      refine s_aload_n X (pc := 52) (x := (ad 0)) 0 dX10_legal_52 rfl ?_
      refine s_get X (pc := 53) (v := .ref (ad 6)) iX10_legal_X10 0 rfl rfl 5 (by decide) kX10_legal_16 rfl rfl dX10_legal_53 ?_
      refine s_iload_n X (pc := 56) (x := p0) 1 dX10_legal_56 rfl ?_
      refine s_iald X (pc := 57) (n := 5) (f := a5) 3 rfl (by first | with_reducible assumption | exact vin (b := 5) rfl (by grind) (by grind)) dX10_legal_57 ?_
      exact s_iret X (pc := 58) (v := a5 p0.toNatClampNeg) dX10_legal_58 (Eq.symm (show rX10_legal a4 a5 a6 a7 a8 a9 p0 p1 = a5 p0.toNatClampNeg from (by unfold rX10_legal; exact ((if_neg c5).trans (if_pos c12_0))))) rfl
    by_cases c12_1 : p1 = 1
    ·
      refine s_tableIn X (pc := 12) (tgt := 59) dX10_legal_12 (by rw [c12_1]; decide) (by rw [c12_1]; decide) (by rw [c12_1]; rfl) (by decide) ?_
      refine s_aload_n X (pc := 59) (x := (ad 0)) 0 dX10_legal_59 rfl ?_
      refine s_get X (pc := 60) (v := .ref (ad 7)) iX10_legal_X10 0 rfl rfl 6 (by decide) kX10_legal_19 rfl rfl dX10_legal_60 ?_
      refine s_iload_n X (pc := 63) (x := p0) 1 dX10_legal_63 rfl ?_
      refine s_iald X (pc := 64) (n := 5) (f := a6) 4 rfl (by first | with_reducible assumption | exact vin (b := 5) rfl (by grind) (by grind)) dX10_legal_64 ?_
      exact s_iret X (pc := 65) (v := a6 p0.toNatClampNeg) dX10_legal_65 (Eq.symm (show rX10_legal a4 a5 a6 a7 a8 a9 p0 p1 = a6 p0.toNatClampNeg from (by unfold rX10_legal; exact ((if_neg c5).trans ((if_neg c12_0).trans (if_pos c12_1)))))) rfl
    by_cases c12_2 : p1 = 2
    ·
      refine s_tableIn X (pc := 12) (tgt := 66) dX10_legal_12 (by rw [c12_2]; decide) (by rw [c12_2]; decide) (by rw [c12_2]; rfl) (by decide) ?_
      refine s_aload_n X (pc := 66) (x := (ad 0)) 0 dX10_legal_66 rfl ?_
      refine s_get X (pc := 67) (v := .ref (ad 8)) iX10_legal_X10 0 rfl rfl 7 (by decide) kX10_legal_22 rfl rfl dX10_legal_67 ?_
      refine s_iload_n X (pc := 70) (x := p0) 1 dX10_legal_70 rfl ?_
      refine s_iald X (pc := 71) (n := 5) (f := a7) 5 rfl (by first | with_reducible assumption | exact vin (b := 5) rfl (by grind) (by grind)) dX10_legal_71 ?_
      exact s_iret X (pc := 72) (v := a7 p0.toNatClampNeg) dX10_legal_72 (Eq.symm (show rX10_legal a4 a5 a6 a7 a8 a9 p0 p1 = a7 p0.toNatClampNeg from (by unfold rX10_legal; exact ((if_neg c5).trans ((if_neg c12_0).trans ((if_neg c12_1).trans (if_pos c12_2))))))) rfl
    by_cases c12_3 : p1 = 3
    ·
      refine s_tableIn X (pc := 12) (tgt := 73) dX10_legal_12 (by rw [c12_3]; decide) (by rw [c12_3]; decide) (by rw [c12_3]; rfl) (by decide) ?_
      refine s_aload_n X (pc := 73) (x := (ad 0)) 0 dX10_legal_73 rfl ?_
      refine s_get X (pc := 74) (v := .ref (ad 9)) iX10_legal_X10 0 rfl rfl 8 (by decide) kX10_legal_25 rfl rfl dX10_legal_74 ?_
      refine s_iload_n X (pc := 77) (x := p0) 1 dX10_legal_77 rfl ?_
      refine s_iald X (pc := 78) (n := 5) (f := a8) 6 rfl (by first | with_reducible assumption | exact vin (b := 5) rfl (by grind) (by grind)) dX10_legal_78 ?_
      exact s_iret X (pc := 79) (v := a8 p0.toNatClampNeg) dX10_legal_79 (Eq.symm (show rX10_legal a4 a5 a6 a7 a8 a9 p0 p1 = a8 p0.toNatClampNeg from (by unfold rX10_legal; exact ((if_neg c5).trans ((if_neg c12_0).trans ((if_neg c12_1).trans ((if_neg c12_2).trans (if_pos c12_3)))))))) rfl
    by_cases c12_4 : p1 = 4
    ·
      refine s_tableIn X (pc := 12) (tgt := 80) dX10_legal_12 (by rw [c12_4]; decide) (by rw [c12_4]; decide) (by rw [c12_4]; rfl) (by decide) ?_
      refine s_aload_n X (pc := 80) (x := (ad 0)) 0 dX10_legal_80 rfl ?_
      refine s_get X (pc := 81) (v := .ref (ad 10)) iX10_legal_X10 0 rfl rfl 9 (by decide) kX10_legal_28 rfl rfl dX10_legal_81 ?_
      refine s_bipush X (pc := 84) (v := 12) dX10_legal_84 (by decide) ?_
      refine s_iload_n X (pc := 86) (x := p0) 1 dX10_legal_86 rfl ?_
      refine s_iadd X (pc := 87) dX10_legal_87 ?_
      refine s_iald X (pc := 88) (n := 23) (f := a9) 7 rfl (by first | with_reducible assumption | exact vin (b := 23) rfl (by grind) (by grind)) dX10_legal_88 ?_
      exact s_iret X (pc := 89) (v := a9 ((12 : Int32) + p0).toNatClampNeg) dX10_legal_89 (Eq.symm (show rX10_legal a4 a5 a6 a7 a8 a9 p0 p1 = a9 ((12 : Int32) + p0).toNatClampNeg from (by unfold rX10_legal; exact ((if_neg c5).trans ((if_neg c12_0).trans ((if_neg c12_1).trans ((if_neg c12_2).trans ((if_neg c12_3).trans (if_pos c12_4))))))))) rfl
    by_cases c12_5 : p1 = 5
    ·
      refine s_tableIn X (pc := 12) (tgt := 90) dX10_legal_12 (by rw [c12_5]; decide) (by rw [c12_5]; decide) (by rw [c12_5]; rfl) (by decide) ?_
      refine s_aload_n X (pc := 90) (x := (ad 0)) 0 dX10_legal_90 rfl ?_
      refine s_get X (pc := 91) (v := .ref (ad 10)) iX10_legal_X10 0 rfl rfl 9 (by decide) kX10_legal_28 rfl rfl dX10_legal_91 ?_
      refine s_bipush X (pc := 94) (v := 17) dX10_legal_94 (by decide) ?_
      refine s_iload_n X (pc := 96) (x := p0) 1 dX10_legal_96 rfl ?_
      refine s_iadd X (pc := 97) dX10_legal_97 ?_
      refine s_iald X (pc := 98) (n := 23) (f := a9) 7 rfl (by first | with_reducible assumption | exact vin (b := 23) rfl (by grind) (by grind)) dX10_legal_98 ?_
      exact s_iret X (pc := 99) (v := a9 ((17 : Int32) + p0).toNatClampNeg) dX10_legal_99 (Eq.symm (show rX10_legal a4 a5 a6 a7 a8 a9 p0 p1 = a9 ((17 : Int32) + p0).toNatClampNeg from (by unfold rX10_legal; exact ((if_neg c5).trans ((if_neg c12_0).trans ((if_neg c12_1).trans ((if_neg c12_2).trans ((if_neg c12_3).trans ((if_neg c12_4).trans (if_pos c12_5)))))))))) rfl
    refine s_tableOut X (pc := 12) (tgt := 100) dX10_legal_12 (sw_out5 c12_0 c12_1 c12_2 c12_3 c12_4 c12_5) (by decide) ?_
    refine s_ldc X (pc := 100) (v := -1000000002) kX10_legal_c101 dX10_legal_100 ?_
    exact s_iret X (pc := 102) (v := (-1000000002 : Int32)) dX10_legal_102 (Eq.symm (show rX10_legal a4 a5 a6 a7 a8 a9 p0 p1 = (-1000000002 : Int32) from (by unfold rX10_legal; exact ((if_neg c5).trans ((if_neg c12_0).trans ((if_neg c12_1).trans ((if_neg c12_2).trans ((if_neg c12_3).trans ((if_neg c12_4).trans (if_neg c12_5)))))))))) rfl
  ·
    refine s_ldc X (pc := 8) (v := -1000000001) kX10_legal_c190 dX10_legal_8 ?_
    exact s_iret X (pc := 10) (v := (-1000000001 : Int32)) dX10_legal_10 (Eq.symm (show rX10_legal a4 a5 a6 a7 a8 a9 p0 p1 = (-1000000001 : Int32) from (by unfold rX10_legal; exact (if_pos c5)))) rfl

theorem m23a {x : Int32} {k : Nat} (h0 : 0 ≤ x) (h1 : x < 20) (hk : k < 23) : (23 : Int32) * x + nI k = nI (23 * x.toNatClampNeg + k) ∧ 23 * x.toNatClampNeg + k < 460 := by
  have e := clampEq h0
  have hn : x.toNatClampNeg < 20 := by
    have a := clampInt h0
    have b := Int32.lt_iff_toInt_lt.mp h1
    have c : (20 : Int32).toInt = 20 := rfl
    omega
  refine ⟨?_, by omega⟩
  conv => lhs; rw [e]
  rw [show (23 : Int32) * nI x.toNatClampNeg = nI (23 * x.toNatClampNeg) from pk_mul 23 x.toNatClampNeg]
  exact nI_add _ _
theorem m23v {x : Int32} {k : Nat} (h0 : 0 ≤ x) (h1 : x < 20) (hk : k < 23) : vp_in ((23 : Int32) * x + nI k) 460 := by
  rw [(m23a h0 h1 hk).1]
  exact vp_in_nI (m23a h0 h1 hk).2 (by decide)
theorem i20 {x : Int32} (h0 : 0 ≤ x) (h1 : x ≤ 20) (h : ¬ x = 20) : x < 20 := by grind

theorem iX10_remember_X10 : ∀ z ∈ wsX100, z ∈ wsX10_remember := fun z h => List.mem_cons_of_mem _ (List.mem_append_right _ h)
theorem kX10_remember_167 : Cond.fieldLink RX10 167 "BathingCourtModel" (TX10 26).2.1 (TX10 26).2.2.1 ∈ wsX10_remember := List.mem_of_getElem? (i := 1) rfl
theorem kX10_remember_56 : Cond.fieldLink RX10 56 "BathingCourtModel" (TX10 27).2.1 (TX10 27).2.2.1 ∈ wsX10_remember := List.mem_of_getElem? (i := 2) rfl
theorem kX10_remember_28 : Cond.fieldLink RX10 28 "BathingCourtModel" (TX10 9).2.1 (TX10 9).2.2.1 ∈ wsX10_remember := List.mem_of_getElem? (i := 3) rfl
def aX10_remember_52 (a9 : Nat → Int32) (a26 : Int32) (a27 : Nat → Int32) : Nat → (Nat → Int32)
  | 0 => a27
  | k52 + 1 => upd (aX10_remember_52 a9 a26 a27 k52) (((23 : Int32) * a26) + (nI k52)).toNatClampNeg (a9 (nI k52).toNatClampNeg)
def aX10_remember_52b (a9 : Nat → Int32) (a26 : Int32) (v12 : (Nat → Int32)) : Nat → (Nat → Int32)
  | 0 => v12
  | k52 + 1 => upd (aX10_remember_52b a9 a26 v12 k52) (((23 : Int32) * (a26 - (1 : Int32))) + (nI k52)).toNatClampNeg (a9 (nI k52).toNatClampNeg)
def aX10_remember_12 (a27 : Nat → Int32) : Nat → (Nat → Int32)
  | 0 => a27
  | k12 + 1 => upd (aX10_remember_12 a27 k12) ((nI (k12 + 23)) - (23 : Int32)).toNatClampNeg ((aX10_remember_12 a27 k12) (nI (k12 + 23)).toNatClampNeg)
def sX10_remember_26 (a26 : Int32) : Int32 := if a26 = (20 : Int32) then ((a26 - (1 : Int32)) + (1 : Int32)) else (a26 + (1 : Int32))
def sX10_remember_27 (a9 : Nat → Int32) (a26 : Int32) (a27 : Nat → Int32) : Nat → Int32 := if a26 = (20 : Int32) then (aX10_remember_52b a9 a26 (aX10_remember_12 a27 437) 23) else (aX10_remember_52 a9 a26 a27 23)
set_option maxRecDepth 100000 in
set_option maxHeartbeats 4000000 in
theorem c_X10_remember (l : Launch) (G : GT) (ad : Nat → Nat) (a0 : Int32) (a1 : Nat → Int32) (a2 : Int32) (a3 : Nat → Int32) (a4 : Int32) (a5 a6 a7 a8 a9 : Nat → Int32) (a10 : Int32) (a11 : Nat → Int32) (a12 a13 a14 a15 a16 a17 : Int32) (a18 : Nat → Int32) (a19 : Int32) (a20 : Nat → Int32) (a21 : Int32) (a22 a23 a24 a25 : Nat → Int32) (a26 : Int32) (a27 a28 a29 a30 : Nat → Int32) (a31 : Int32) (a32 a33 : Nat → Int32) (a34 : Int32) (a35 a36 a37 a38 : Nat → Int32) (u0 : 0 ≤ a26) (u20 : a26 ≤ 20) : Cv l G yX10_remember wsX10_remember (rmL 0) [.ref (ad 0)] (wX10 G ad a0 a1 a2 a3 a4 a5 a6 a7 a8 a9 a10 a11 a12 a13 a14 a15 a16 a17 a18 a19 a20 a21 a22 a23 a24 a25 a26 a27 a28 a29 a30 a31 a32 a33 a34 a35 a36 a37 a38) (wX10 G ad a0 a1 a2 a3 a4 a5 a6 a7 a8 a9 a10 a11 a12 a13 a14 a15 a16 a17 a18 a19 a20 a21 a22 a23 a24 a25 (sX10_remember_26 a26) (sX10_remember_27 a9 a26 a27) a28 a29 a30 a31 a32 a33 a34 a35 a36 a37 a38) := by
  refine cv_start (by decide) rfl rfl (Nat.le_of_ble_eq_true rfl) ?_
  intro p e s m args below meth c A X
  refine s_perm (lv2 := [(0, .ref (ad 0))]) [0] rfl ?_
  refine s_aload_n X (pc := 0) (x := (ad 0)) 0 dX10_remember_0 rfl ?_
  refine s_get X (pc := 1) (v := .int a26) iX10_remember_X10 0 rfl rfl 26 (by decide) kX10_remember_167 rfl rfl dX10_remember_1 ?_
  refine s_bipush X (pc := 4) (v := 20) dX10_remember_4 (by decide) ?_
  refine s_icmp_ne X (pc := 6) (tgt := 50) dX10_remember_6 (by decide) (fun c6 => ?_) (fun c6 => ?_)
  ·
    refine s_iconst X (pc := 50) (v := 0) dX10_remember_50 (by decide) ?_
    refine s_istore_n X (pc := 51) (i := 1) (lv2 := [(1, .int (0 : Int32)), (0, .ref (ad 0))]) dX10_remember_51 rfl (by decide) rfl ?_
    refine s_perm (lv2 := [(0, .ref (ad 0)), (1, .int (0 : Int32))]) [1, 0] rfl ?_
    have L52 : ∀ (n52 k52 : Nat), k52 + n52 = 23 → Sm p l e (rmL 0) s m args below meth c G A 2 0 0 (Qcv below G A args s (wX10 G ad a0 a1 a2 a3 a4 a5 a6 a7 a8 a9 a10 a11 a12 a13 a14 a15 a16 a17 a18 a19 a20 a21 a22 a23 a24 a25 (sX10_remember_26 a26) (sX10_remember_27 a9 a26 a27) a28 a29 a30 a31 a32 a33 a34 a35 a36 a37 a38)) 52 [(0, .ref (ad 0)), (1, .int (nI k52))] [] (wX10 G ad a0 a1 a2 a3 a4 a5 a6 a7 a8 a9 a10 a11 a12 a13 a14 a15 a16 a17 a18 a19 a20 a21 a22 a23 a24 a25 a26 (aX10_remember_52 a9 a26 a27 k52) a28 a29 a30 a31 a32 a33 a34 a35 a36 a37 a38) := by
      intro n52
      induction n52 with
      | zero =>
        intro k52 hk52
        have hK52 : k52 = 23 := by omega
        rw [hK52]
        have tk52 : (nI 23).toInt = ((23 : Nat) : Int) := nI_toInt (by omega)
        have eN52 : ((23 : Int32)).toInt = ((23 : Nat) : Int) := rfl
        refine s_iload_n X (pc := 52) (x := nI 23) 1 dX10_remember_52 rfl ?_
        refine s_bipush X (pc := 53) (v := 23) dX10_remember_53 (by decide) ?_
        refine s_icmp_ge X (pc := 55) (tgt := 84) dX10_remember_55 (by decide) (fun c55 => ?_) (fun c55 => ?_)
        ·
          refine s_aload_n X (pc := 84) (x := (ad 0)) 0 dX10_remember_84 rfl ?_
          refine s_dup X (pc := 85) dX10_remember_85 rfl ?_
          refine s_get X (pc := 86) (v := .int a26) iX10_remember_X10 0 rfl rfl 26 (by decide) kX10_remember_167 rfl rfl dX10_remember_86 ?_
          refine s_iconst X (pc := 89) (v := 1) dX10_remember_89 (by decide) ?_
          refine s_iadd X (pc := 90) dX10_remember_90 ?_
          refine s_put X (pc := 91) (v := .int (a26 + (1 : Int32))) (w2 := wX10 G ad a0 a1 a2 a3 a4 a5 a6 a7 a8 a9 a10 a11 a12 a13 a14 a15 a16 a17 a18 a19 a20 a21 a22 a23 a24 a25 (a26 + (1 : Int32)) (aX10_remember_52 a9 a26 a27 23) a28 a29 a30 a31 a32 a33 a34 a35 a36 a37 a38) iX10_remember_X10 0 rfl rfl 26 (by decide) kX10_remember_167 rfl tyX10 tyX10_ok nmX10 rfl (ty := .int) (by decide +kernel) rfl rfl (Nat.le_of_ble_eq_true rfl) rfl dX10_remember_91 ?_
          exact s_vret X (pc := 94) dX10_remember_94 (by rw [show sX10_remember_26 a26 = a26 + (1 : Int32) from (by unfold sX10_remember_26; exact (if_neg c6)), show sX10_remember_27 a9 a26 a27 = (aX10_remember_52 a9 a26 a27 23) from (by unfold sX10_remember_27; exact (if_neg c6))])
        ·
          exact absurd ((t_le eN52 tk52).mpr (by omega)) c55
      | succ n52 ih52 =>
        intro k52 hk52
        have hlt52 : k52 < 23 := by omega
        have tk52 : (nI k52).toInt = ((k52 : Nat) : Int) := nI_toInt (by omega)
        have eN52 : ((23 : Int32)).toInt = ((23 : Nat) : Int) := rfl
        refine s_iload_n X (pc := 52) (x := nI k52) 1 dX10_remember_52 rfl ?_
        refine s_bipush X (pc := 53) (v := 23) dX10_remember_53 (by decide) ?_
        refine s_icmp_ge X (pc := 55) (tgt := 84) dX10_remember_55 (by decide) (fun c55 => ?_) (fun c55 => ?_)
        ·
          exact absurd ((t_le eN52 tk52).mp c55) (by omega)
        ·
          refine s_aload_n X (pc := 58) (x := (ad 0)) 0 dX10_remember_58 rfl ?_
          refine s_get X (pc := 59) (v := .ref (ad 28)) iX10_remember_X10 0 rfl rfl 27 (by decide) kX10_remember_56 rfl rfl dX10_remember_59 ?_
          refine s_bipush X (pc := 62) (v := 23) dX10_remember_62 (by decide) ?_
          refine s_aload_n X (pc := 64) (x := (ad 0)) 0 dX10_remember_64 rfl ?_
          refine s_get X (pc := 65) (v := .int a26) iX10_remember_X10 0 rfl rfl 26 (by decide) kX10_remember_167 rfl rfl dX10_remember_65 ?_
          refine s_imul X (pc := 68) dX10_remember_68 ?_
          refine s_iload_n X (pc := 69) (x := nI k52) 1 dX10_remember_69 rfl ?_
          refine s_iadd X (pc := 70) dX10_remember_70 ?_
          refine s_aload_n X (pc := 71) (x := (ad 0)) 0 dX10_remember_71 rfl ?_
          refine s_get X (pc := 72) (v := .ref (ad 10)) iX10_remember_X10 0 rfl rfl 9 (by decide) kX10_remember_28 rfl rfl dX10_remember_72 ?_
          refine s_iload_n X (pc := 75) (x := nI k52) 1 dX10_remember_75 rfl ?_
          refine s_iald X (pc := 76) (n := 23) (f := a9) 7 rfl (vp_in_nI (by omega) (by decide)) dX10_remember_76 ?_
          refine s_iast X (pc := 77) (n := 460) (f := (aX10_remember_52 a9 a26 a27 k52)) (w2 := wX10 G ad a0 a1 a2 a3 a4 a5 a6 a7 a8 a9 a10 a11 a12 a13 a14 a15 a16 a17 a18 a19 a20 a21 a22 a23 a24 a25 a26 (upd (aX10_remember_52 a9 a26 a27 k52) (((23 : Int32) * a26) + (nI k52)).toNatClampNeg (a9 (nI k52).toNatClampNeg)) a28 a29 a30 a31 a32 a33 a34 a35 a36 a37 a38) 15 rfl (m23v (by grind) (by grind) (by omega)) rfl dX10_remember_77 ?_
          refine s_iinc X (pc := 78) (v := nI (k52 + 1)) (lv2 := [(1, .int (nI (k52 + 1))), (0, .ref (ad 0))]) 1 dX10_remember_78 rfl (nI_1 _) (by decide) rfl ?_
          refine s_goto X (pc := 81) (tgt := 52) dX10_remember_81 (by decide) ?_
          refine s_perm (lv2 := [(0, .ref (ad 0)), (1, .int (nI (k52 + 1)))]) [1, 0] rfl ?_
          have hb52 : (aX10_remember_52 a9 a26 a27 (k52 + 1)) = upd (aX10_remember_52 a9 a26 a27 k52) (((23 : Int32) * a26) + (nI k52)).toNatClampNeg (a9 (nI k52).toNatClampNeg) := rfl
          refine s_cast (lv2 := [(0, .ref (ad 0)), (1, .int (nI (k52 + 1)))]) (w2 := wX10 G ad a0 a1 a2 a3 a4 a5 a6 a7 a8 a9 a10 a11 a12 a13 a14 a15 a16 a17 a18 a19 a20 a21 a22 a23 a24 a25 a26 (aX10_remember_52 a9 a26 a27 (k52 + 1)) a28 a29 a30 a31 a32 a33 a34 a35 a36 a37 a38) (by first | (rw [hb52]; done) | rfl) (by first | (rw [hb52]; done) | rfl) ?_
          exact ih52 (k52 + 1) (by omega)
    exact L52 23 0 (Nat.zero_add _)
  ·
    refine s_bipush X (pc := 9) (v := 23) dX10_remember_9 (by decide) ?_
    refine s_istore_n X (pc := 11) (i := 1) (lv2 := [(1, .int (23 : Int32)), (0, .ref (ad 0))]) dX10_remember_11 rfl (by decide) rfl ?_
    refine s_perm (lv2 := [(0, .ref (ad 0)), (1, .int (23 : Int32))]) [1, 0] rfl ?_
    have L12 : ∀ (n12 k12 : Nat), k12 + n12 = 437 → Sm p l e (rmL 0) s m args below meth c G A 2 0 0 (Qcv below G A args s (wX10 G ad a0 a1 a2 a3 a4 a5 a6 a7 a8 a9 a10 a11 a12 a13 a14 a15 a16 a17 a18 a19 a20 a21 a22 a23 a24 a25 (sX10_remember_26 a26) (sX10_remember_27 a9 a26 a27) a28 a29 a30 a31 a32 a33 a34 a35 a36 a37 a38)) 12 [(0, .ref (ad 0)), (1, .int (nI (k12 + 23)))] [] (wX10 G ad a0 a1 a2 a3 a4 a5 a6 a7 a8 a9 a10 a11 a12 a13 a14 a15 a16 a17 a18 a19 a20 a21 a22 a23 a24 a25 a26 (aX10_remember_12 a27 k12) a28 a29 a30 a31 a32 a33 a34 a35 a36 a37 a38) := by
      intro n12
      induction n12 with
      | zero =>
        intro k12 hk12
        have hK12 : k12 = 437 := by omega
        rw [hK12]
        have tk12 : (nI (437 + 23)).toInt = ((437 + 23 : Nat) : Int) := nI_toInt (by omega)
        have eN12 : ((460 : Int32)).toInt = ((437 + 23 : Nat) : Int) := rfl
        refine s_iload_n X (pc := 12) (x := nI (437 + 23)) 1 dX10_remember_12 rfl ?_
        refine s_sipush X (pc := 13) (v := 460) dX10_remember_13 (by decide) ?_
        refine s_icmp_ge X (pc := 16) (tgt := 40) dX10_remember_16 (by decide) (fun c16 => ?_) (fun c16 => ?_)
        ·
          refine s_aload_n X (pc := 40) (x := (ad 0)) 0 dX10_remember_40 rfl ?_
          refine s_dup X (pc := 41) dX10_remember_41 rfl ?_
          refine s_get X (pc := 42) (v := .int a26) iX10_remember_X10 0 rfl rfl 26 (by decide) kX10_remember_167 rfl rfl dX10_remember_42 ?_
          refine s_iconst X (pc := 45) (v := 1) dX10_remember_45 (by decide) ?_
          refine s_isub X (pc := 46) dX10_remember_46 ?_
          refine s_put X (pc := 47) (v := .int (a26 - (1 : Int32))) (w2 := wX10 G ad a0 a1 a2 a3 a4 a5 a6 a7 a8 a9 a10 a11 a12 a13 a14 a15 a16 a17 a18 a19 a20 a21 a22 a23 a24 a25 (a26 - (1 : Int32)) (aX10_remember_12 a27 437) a28 a29 a30 a31 a32 a33 a34 a35 a36 a37 a38) iX10_remember_X10 0 rfl rfl 26 (by decide) kX10_remember_167 rfl tyX10 tyX10_ok nmX10 rfl (ty := .int) (by decide +kernel) rfl rfl (Nat.le_of_ble_eq_true rfl) rfl dX10_remember_47 ?_
          refine s_iconst X (pc := 50) (v := 0) dX10_remember_50 (by decide) ?_
          refine s_istore_n X (pc := 51) (i := 1) (lv2 := [(1, .int (0 : Int32)), (0, .ref (ad 0))]) dX10_remember_51 rfl (by decide) rfl ?_
          refine s_perm (lv2 := [(0, .ref (ad 0)), (1, .int (0 : Int32))]) [1, 0] rfl ?_
          have L52 : ∀ (n52 k52 : Nat), k52 + n52 = 23 → Sm p l e (rmL 0) s m args below meth c G A 2 0 0 (Qcv below G A args s (wX10 G ad a0 a1 a2 a3 a4 a5 a6 a7 a8 a9 a10 a11 a12 a13 a14 a15 a16 a17 a18 a19 a20 a21 a22 a23 a24 a25 (sX10_remember_26 a26) (sX10_remember_27 a9 a26 a27) a28 a29 a30 a31 a32 a33 a34 a35 a36 a37 a38)) 52 [(0, .ref (ad 0)), (1, .int (nI k52))] [] (wX10 G ad a0 a1 a2 a3 a4 a5 a6 a7 a8 a9 a10 a11 a12 a13 a14 a15 a16 a17 a18 a19 a20 a21 a22 a23 a24 a25 (a26 - (1 : Int32)) (aX10_remember_52b a9 a26 (aX10_remember_12 a27 437) k52) a28 a29 a30 a31 a32 a33 a34 a35 a36 a37 a38) := by
            intro n52
            induction n52 with
            | zero =>
              intro k52 hk52
              have hK52 : k52 = 23 := by omega
              rw [hK52]
              have tk52 : (nI 23).toInt = ((23 : Nat) : Int) := nI_toInt (by omega)
              have eN52 : ((23 : Int32)).toInt = ((23 : Nat) : Int) := rfl
              refine s_iload_n X (pc := 52) (x := nI 23) 1 dX10_remember_52 rfl ?_
              refine s_bipush X (pc := 53) (v := 23) dX10_remember_53 (by decide) ?_
              refine s_icmp_ge X (pc := 55) (tgt := 84) dX10_remember_55 (by decide) (fun c55 => ?_) (fun c55 => ?_)
              ·
                refine s_aload_n X (pc := 84) (x := (ad 0)) 0 dX10_remember_84 rfl ?_
                refine s_dup X (pc := 85) dX10_remember_85 rfl ?_
                refine s_get X (pc := 86) (v := .int (a26 - (1 : Int32))) iX10_remember_X10 0 rfl rfl 26 (by decide) kX10_remember_167 rfl rfl dX10_remember_86 ?_
                refine s_iconst X (pc := 89) (v := 1) dX10_remember_89 (by decide) ?_
                refine s_iadd X (pc := 90) dX10_remember_90 ?_
                refine s_put X (pc := 91) (v := .int ((a26 - (1 : Int32)) + (1 : Int32))) (w2 := wX10 G ad a0 a1 a2 a3 a4 a5 a6 a7 a8 a9 a10 a11 a12 a13 a14 a15 a16 a17 a18 a19 a20 a21 a22 a23 a24 a25 ((a26 - (1 : Int32)) + (1 : Int32)) (aX10_remember_52b a9 a26 (aX10_remember_12 a27 437) 23) a28 a29 a30 a31 a32 a33 a34 a35 a36 a37 a38) iX10_remember_X10 0 rfl rfl 26 (by decide) kX10_remember_167 rfl tyX10 tyX10_ok nmX10 rfl (ty := .int) (by decide +kernel) rfl rfl (Nat.le_of_ble_eq_true rfl) rfl dX10_remember_91 ?_
                exact s_vret X (pc := 94) dX10_remember_94 (by rw [show sX10_remember_26 a26 = (a26 - (1 : Int32)) + (1 : Int32) from (by unfold sX10_remember_26; exact (if_pos c6)), show sX10_remember_27 a9 a26 a27 = (aX10_remember_52b a9 a26 (aX10_remember_12 a27 437) 23) from (by unfold sX10_remember_27; exact (if_pos c6))])
              ·
                exact absurd ((t_le eN52 tk52).mpr (by omega)) c55
            | succ n52 ih52 =>
              intro k52 hk52
              have hlt52 : k52 < 23 := by omega
              have tk52 : (nI k52).toInt = ((k52 : Nat) : Int) := nI_toInt (by omega)
              have eN52 : ((23 : Int32)).toInt = ((23 : Nat) : Int) := rfl
              refine s_iload_n X (pc := 52) (x := nI k52) 1 dX10_remember_52 rfl ?_
              refine s_bipush X (pc := 53) (v := 23) dX10_remember_53 (by decide) ?_
              refine s_icmp_ge X (pc := 55) (tgt := 84) dX10_remember_55 (by decide) (fun c55 => ?_) (fun c55 => ?_)
              ·
                exact absurd ((t_le eN52 tk52).mp c55) (by omega)
              ·
                refine s_aload_n X (pc := 58) (x := (ad 0)) 0 dX10_remember_58 rfl ?_
                refine s_get X (pc := 59) (v := .ref (ad 28)) iX10_remember_X10 0 rfl rfl 27 (by decide) kX10_remember_56 rfl rfl dX10_remember_59 ?_
                refine s_bipush X (pc := 62) (v := 23) dX10_remember_62 (by decide) ?_
                refine s_aload_n X (pc := 64) (x := (ad 0)) 0 dX10_remember_64 rfl ?_
                refine s_get X (pc := 65) (v := .int (a26 - (1 : Int32))) iX10_remember_X10 0 rfl rfl 26 (by decide) kX10_remember_167 rfl rfl dX10_remember_65 ?_
                refine s_imul X (pc := 68) dX10_remember_68 ?_
                refine s_iload_n X (pc := 69) (x := nI k52) 1 dX10_remember_69 rfl ?_
                refine s_iadd X (pc := 70) dX10_remember_70 ?_
                refine s_aload_n X (pc := 71) (x := (ad 0)) 0 dX10_remember_71 rfl ?_
                refine s_get X (pc := 72) (v := .ref (ad 10)) iX10_remember_X10 0 rfl rfl 9 (by decide) kX10_remember_28 rfl rfl dX10_remember_72 ?_
                refine s_iload_n X (pc := 75) (x := nI k52) 1 dX10_remember_75 rfl ?_
                refine s_iald X (pc := 76) (n := 23) (f := a9) 7 rfl (vp_in_nI (by omega) (by decide)) dX10_remember_76 ?_
                refine s_iast X (pc := 77) (n := 460) (f := (aX10_remember_52b a9 a26 (aX10_remember_12 a27 437) k52)) (w2 := wX10 G ad a0 a1 a2 a3 a4 a5 a6 a7 a8 a9 a10 a11 a12 a13 a14 a15 a16 a17 a18 a19 a20 a21 a22 a23 a24 a25 (a26 - (1 : Int32)) (upd (aX10_remember_52b a9 a26 (aX10_remember_12 a27 437) k52) (((23 : Int32) * (a26 - (1 : Int32))) + (nI k52)).toNatClampNeg (a9 (nI k52).toNatClampNeg)) a28 a29 a30 a31 a32 a33 a34 a35 a36 a37 a38) 15 rfl (m23v (by grind) (by grind) (by omega)) rfl dX10_remember_77 ?_
                refine s_iinc X (pc := 78) (v := nI (k52 + 1)) (lv2 := [(1, .int (nI (k52 + 1))), (0, .ref (ad 0))]) 1 dX10_remember_78 rfl (nI_1 _) (by decide) rfl ?_
                refine s_goto X (pc := 81) (tgt := 52) dX10_remember_81 (by decide) ?_
                refine s_perm (lv2 := [(0, .ref (ad 0)), (1, .int (nI (k52 + 1)))]) [1, 0] rfl ?_
                have hb52 : (aX10_remember_52b a9 a26 (aX10_remember_12 a27 437) (k52 + 1)) = upd (aX10_remember_52b a9 a26 (aX10_remember_12 a27 437) k52) (((23 : Int32) * (a26 - (1 : Int32))) + (nI k52)).toNatClampNeg (a9 (nI k52).toNatClampNeg) := rfl
                refine s_cast (lv2 := [(0, .ref (ad 0)), (1, .int (nI (k52 + 1)))]) (w2 := wX10 G ad a0 a1 a2 a3 a4 a5 a6 a7 a8 a9 a10 a11 a12 a13 a14 a15 a16 a17 a18 a19 a20 a21 a22 a23 a24 a25 (a26 - (1 : Int32)) (aX10_remember_52b a9 a26 (aX10_remember_12 a27 437) (k52 + 1)) a28 a29 a30 a31 a32 a33 a34 a35 a36 a37 a38) (by first | (rw [hb52]; done) | rfl) (by first | (rw [hb52]; done) | rfl) ?_
                exact ih52 (k52 + 1) (by omega)
          exact L52 23 0 (Nat.zero_add _)
        ·
          exact absurd ((t_le eN12 tk12).mpr (by omega)) c16
      | succ n12 ih12 =>
        intro k12 hk12
        have hlt12 : k12 < 437 := by omega
        have tk12 : (nI (k12 + 23)).toInt = ((k12 + 23 : Nat) : Int) := nI_toInt (by omega)
        have eN12 : ((460 : Int32)).toInt = ((437 + 23 : Nat) : Int) := rfl
        refine s_iload_n X (pc := 12) (x := nI (k12 + 23)) 1 dX10_remember_12 rfl ?_
        refine s_sipush X (pc := 13) (v := 460) dX10_remember_13 (by decide) ?_
        refine s_icmp_ge X (pc := 16) (tgt := 40) dX10_remember_16 (by decide) (fun c16 => ?_) (fun c16 => ?_)
        ·
          exact absurd ((t_le eN12 tk12).mp c16) (by omega)
        ·
          refine s_aload_n X (pc := 19) (x := (ad 0)) 0 dX10_remember_19 rfl ?_
          refine s_get X (pc := 20) (v := .ref (ad 28)) iX10_remember_X10 0 rfl rfl 27 (by decide) kX10_remember_56 rfl rfl dX10_remember_20 ?_
          refine s_iload_n X (pc := 23) (x := nI (k12 + 23)) 1 dX10_remember_23 rfl ?_
          refine s_bipush X (pc := 24) (v := 23) dX10_remember_24 (by decide) ?_
          refine s_isub X (pc := 26) dX10_remember_26 ?_
          refine s_aload_n X (pc := 27) (x := (ad 0)) 0 dX10_remember_27 rfl ?_
          refine s_get X (pc := 28) (v := .ref (ad 28)) iX10_remember_X10 0 rfl rfl 27 (by decide) kX10_remember_56 rfl rfl dX10_remember_28 ?_
          refine s_iload_n X (pc := 31) (x := nI (k12 + 23)) 1 dX10_remember_31 rfl ?_
          refine s_iald X (pc := 32) (n := 460) (f := (aX10_remember_12 a27 k12)) 15 rfl (vp_in_nI (by omega) (by decide)) dX10_remember_32 ?_
          refine s_iast X (pc := 33) (n := 460) (f := (aX10_remember_12 a27 k12)) (w2 := wX10 G ad a0 a1 a2 a3 a4 a5 a6 a7 a8 a9 a10 a11 a12 a13 a14 a15 a16 a17 a18 a19 a20 a21 a22 a23 a24 a25 a26 (upd (aX10_remember_12 a27 k12) ((nI (k12 + 23)) - (23 : Int32)).toNatClampNeg ((aX10_remember_12 a27 k12) (nI (k12 + 23)).toNatClampNeg)) a28 a29 a30 a31 a32 a33 a34 a35 a36 a37 a38) 15 rfl (by rw [show nI (k12 + 23) - 23 = nI (k12 + 23 - 23) from pk_sub (b := 23) (by omega)]; exact vp_in_nI (by omega) (by decide)) rfl dX10_remember_33 ?_
          refine s_iinc X (pc := 34) (v := nI (k12 + 1 + 23)) (lv2 := [(1, .int (nI (k12 + 1 + 23))), (0, .ref (ad 0))]) 1 dX10_remember_34 rfl (nI_1 _) (by decide) rfl ?_
          refine s_goto X (pc := 37) (tgt := 12) dX10_remember_37 (by decide) ?_
          refine s_perm (lv2 := [(0, .ref (ad 0)), (1, .int (nI (k12 + 1 + 23)))]) [1, 0] rfl ?_
          have hb12 : (aX10_remember_12 a27 (k12 + 1)) = upd (aX10_remember_12 a27 k12) ((nI (k12 + 23)) - (23 : Int32)).toNatClampNeg ((aX10_remember_12 a27 k12) (nI (k12 + 23)).toNatClampNeg) := rfl
          refine s_cast (lv2 := [(0, .ref (ad 0)), (1, .int (nI (k12 + 1 + 23)))]) (w2 := wX10 G ad a0 a1 a2 a3 a4 a5 a6 a7 a8 a9 a10 a11 a12 a13 a14 a15 a16 a17 a18 a19 a20 a21 a22 a23 a24 a25 a26 (aX10_remember_12 a27 (k12 + 1)) a28 a29 a30 a31 a32 a33 a34 a35 a36 a37 a38) (by first | (rw [hb12]; done) | rfl) (by first | (rw [hb12]; done) | rfl) ?_
          exact ih12 (k12 + 1) (by omega)
    exact L12 437 0 (Nat.zero_add _)

theorem iX10_isDeepEnough_X10 : ∀ z ∈ wsX100, z ∈ wsX10_isDeepEnough := fun z h => List.mem_cons_of_mem _ (List.mem_append_right _ h)
theorem kX10_isDeepEnough_16 : Cond.fieldLink RX10 16 "BathingCourtModel" (TX10 5).2.1 (TX10 5).2.2.1 ∈ wsX10_isDeepEnough := List.mem_of_getElem? (i := 1) rfl
theorem kX10_isDeepEnough_22 : Cond.fieldLink RX10 22 "BathingCourtModel" (TX10 7).2.1 (TX10 7).2.2.1 ∈ wsX10_isDeepEnough := List.mem_of_getElem? (i := 2) rfl
def rX10_isDeepEnough (a5 a7 : Nat → Int32) (p0 p1 : Int32) : Int32 := rX10_in p1.toInt64 ((a5 p0.toNatClampNeg).toInt64) (((a5 p0.toNatClampNeg) + (a7 p0.toNatClampNeg)).toInt64)
set_option maxRecDepth 100000 in
set_option maxHeartbeats 4000000 in
theorem c_X10_isDeepEnough (l : Launch) (G : GT) (ad : Nat → Nat) (a0 : Int32) (a1 : Nat → Int32) (a2 : Int32) (a3 : Nat → Int32) (a4 : Int32) (a5 a6 a7 a8 a9 : Nat → Int32) (a10 : Int32) (a11 : Nat → Int32) (a12 a13 a14 a15 a16 a17 : Int32) (a18 : Nat → Int32) (a19 : Int32) (a20 : Nat → Int32) (a21 : Int32) (a22 a23 a24 a25 : Nat → Int32) (a26 : Int32) (a27 a28 a29 a30 : Nat → Int32) (a31 : Int32) (a32 a33 : Nat → Int32) (a34 : Int32) (a35 a36 a37 a38 : Nat → Int32) (p0 p1 : Int32) (hc : vp_in p0 5) : Ci l G yX10_isDeepEnough wsX10_isDeepEnough (rmL 1) [.ref (ad 0), .int p0, .int p1] (wX10 G ad a0 a1 a2 a3 a4 a5 a6 a7 a8 a9 a10 a11 a12 a13 a14 a15 a16 a17 a18 a19 a20 a21 a22 a23 a24 a25 a26 a27 a28 a29 a30 a31 a32 a33 a34 a35 a36 a37 a38) (rX10_isDeepEnough a5 a7 p0 p1) (wX10 G ad a0 a1 a2 a3 a4 a5 a6 a7 a8 a9 a10 a11 a12 a13 a14 a15 a16 a17 a18 a19 a20 a21 a22 a23 a24 a25 a26 a27 a28 a29 a30 a31 a32 a33 a34 a35 a36 a37 a38) := by
  refine ci_start .boolean (by decide) rfl rfl (Nat.le_of_ble_eq_true rfl) ?_
  intro p e s m args below meth c A X
  refine s_perm (lv2 := [(0, .ref (ad 0)), (1, .int p0), (2, .int p1)]) [0, 1, 2] rfl ?_
  refine s_iload_n X (pc := 0) (x := p1) 2 dX10_isDeepEnough_0 rfl ?_
  refine s_i2l X (pc := 1) dX10_isDeepEnough_1 ?_
  refine s_aload_n X (pc := 2) (x := (ad 0)) 0 dX10_isDeepEnough_2 rfl ?_
  refine s_get X (pc := 3) (v := .ref (ad 6)) iX10_isDeepEnough_X10 0 rfl rfl 5 (by decide) kX10_isDeepEnough_16 rfl rfl dX10_isDeepEnough_3 ?_
  refine s_iload_n X (pc := 6) (x := p0) 1 dX10_isDeepEnough_6 rfl ?_
  refine s_iald X (pc := 7) (n := 5) (f := a5) 3 rfl (by first | with_reducible assumption | exact vin (b := 5) rfl (by grind) (by grind)) dX10_isDeepEnough_7 ?_
  refine s_i2l X (pc := 8) dX10_isDeepEnough_8 ?_
  refine s_aload_n X (pc := 9) (x := (ad 0)) 0 dX10_isDeepEnough_9 rfl ?_
  refine s_get X (pc := 10) (v := .ref (ad 6)) iX10_isDeepEnough_X10 0 rfl rfl 5 (by decide) kX10_isDeepEnough_16 rfl rfl dX10_isDeepEnough_10 ?_
  refine s_iload_n X (pc := 13) (x := p0) 1 dX10_isDeepEnough_13 rfl ?_
  refine s_iald X (pc := 14) (n := 5) (f := a5) 3 rfl (by first | with_reducible assumption | exact vin (b := 5) rfl (by grind) (by grind)) dX10_isDeepEnough_14 ?_
  refine s_aload_n X (pc := 15) (x := (ad 0)) 0 dX10_isDeepEnough_15 rfl ?_
  refine s_get X (pc := 16) (v := .ref (ad 8)) iX10_isDeepEnough_X10 0 rfl rfl 7 (by decide) kX10_isDeepEnough_22 rfl rfl dX10_isDeepEnough_16 ?_
  refine s_iload_n X (pc := 19) (x := p0) 1 dX10_isDeepEnough_19 rfl ?_
  refine s_iald X (pc := 20) (n := 5) (f := a7) 5 rfl (by first | with_reducible assumption | exact vin (b := 5) rfl (by grind) (by grind)) dX10_isDeepEnough_20 ?_
  refine s_iadd X (pc := 21) dX10_isDeepEnough_21 ?_
  refine s_i2l X (pc := 22) dX10_isDeepEnough_22 ?_
  refine s_callSiN X (pc := 23) (r := rX10_in p1.toInt64 ((a5 p0.toNatClampNeg).toInt64) (((a5 p0.toNatClampNeg) + (a7 p0.toNatClampNeg)).toInt64)) (n := 3) (st := []) (As := [.long p1.toInt64, .long ((a5 p0.toNatClampNeg).toInt64), .long (((a5 p0.toNatClampNeg) + (a7 p0.toNatClampNeg)).toInt64)]) 0 (c_X10_in l G p1.toInt64 ((a5 p0.toNatClampNeg).toInt64) (((a5 p0.toNatClampNeg) + (a7 p0.toNatClampNeg)).toInt64)) gX10_isDeepEnough_X10_in rfl (by decide +kernel) ⟨Nat.le_of_ble_eq_true rfl, Nat.le_of_ble_eq_true rfl⟩ rfl rfl (Nat.le_of_ble_eq_true rfl) (Nat.zero_le _) (Nat.zero_le _) dX10_isDeepEnough_23 ?_
  exact s_zret X (pc := 26) (v := rX10_in p1.toInt64 ((a5 p0.toNatClampNeg).toInt64) (((a5 p0.toNatClampNeg) + (a7 p0.toNatClampNeg)).toInt64)) (bX10_in _ _ _) dX10_isDeepEnough_26 rfl rfl
theorem bX10_isDeepEnough (a5 a7 : Nat → Int32) (p0 p1 : Int32) : rX10_isDeepEnough a5 a7 p0 p1 = 0 ∨ rX10_isDeepEnough a5 a7 p0 p1 = 1 := by
  unfold rX10_isDeepEnough
  repeat' split
  all_goals first | exact Or.inl rfl | exact Or.inr rfl | exact bX10_in _ _ _

theorem iX10_tell_X10 : ∀ z ∈ wsX100, z ∈ wsX10_tell := fun z h => List.mem_cons_of_mem _ (List.mem_append_right _ h)
theorem kX10_tell_28 : Cond.fieldLink RX10 28 "BathingCourtModel" (TX10 9).2.1 (TX10 9).2.2.1 ∈ wsX10_tell := List.mem_of_getElem? (i := 1) rfl
theorem kX10_tell_16 : Cond.fieldLink RX10 16 "BathingCourtModel" (TX10 5).2.1 (TX10 5).2.2.1 ∈ wsX10_tell := List.mem_of_getElem? (i := 2) rfl
theorem kX10_tell_22 : Cond.fieldLink RX10 22 "BathingCourtModel" (TX10 7).2.1 (TX10 7).2.2.1 ∈ wsX10_tell := List.mem_of_getElem? (i := 3) rfl
theorem kX10_tell_19 : Cond.fieldLink RX10 19 "BathingCourtModel" (TX10 6).2.1 (TX10 6).2.2.1 ∈ wsX10_tell := List.mem_of_getElem? (i := 4) rfl
def sX10_tell_9 (a0 : Int32) (a1 a5 a6 a7 a9 : Nat → Int32) (p0 p1 : Int32) : Nat → Int32 := if (rX10_depthBehind a0 a1 a9 (a9 p0.toNatClampNeg) (0 : Int32)) ≤ ((a5 p1.toNatClampNeg) + (a7 p1.toNatClampNeg)) then (if (rX10_depthBehind a0 a1 a9 (a9 p0.toNatClampNeg) (0 : Int32)) < (a5 p1.toNatClampNeg) then a9 else (if ((a9 ((17 : Int32) + p1).toNatClampNeg) + (1 : Int32)) < (a6 p1.toNatClampNeg) then (upd a9 ((17 : Int32) + p1).toNatClampNeg ((a9 ((17 : Int32) + p1).toNatClampNeg) + (1 : Int32))) else (upd (upd (upd a9 ((17 : Int32) + p1).toNatClampNeg ((a9 ((17 : Int32) + p1).toNatClampNeg) + (1 : Int32))) ((12 : Int32) + p1).toNatClampNeg (2 : Int32)) ((4 : Int32) + p0).toNatClampNeg (-1 : Int32)))) else (upd (upd a9 ((12 : Int32) + p1).toNatClampNeg (4 : Int32)) ((4 : Int32) + p0).toNatClampNeg (-1 : Int32))
set_option maxRecDepth 100000 in
set_option maxHeartbeats 4000000 in
theorem c_X10_tell (l : Launch) (G : GT) (ad : Nat → Nat) (a0 : Int32) (a1 : Nat → Int32) (a2 : Int32) (a3 : Nat → Int32) (a4 : Int32) (a5 a6 a7 a8 a9 : Nat → Int32) (a10 : Int32) (a11 : Nat → Int32) (a12 a13 a14 a15 a16 a17 : Int32) (a18 : Nat → Int32) (a19 : Int32) (a20 : Nat → Int32) (a21 : Int32) (a22 a23 a24 a25 : Nat → Int32) (a26 : Int32) (a27 a28 a29 a30 : Nat → Int32) (a31 : Int32) (a32 a33 : Nat → Int32) (a34 : Int32) (a35 a36 a37 a38 : Nat → Int32) (p0 p1 : Int32) (tp : 0 < a0) (t12 : a0 ≤ 12) (n0 : 0 ≤ a9 22) (a0h : 0 ≤ p0) (a1h : p0 < 4) (b0h : 0 ≤ p1) (b1h : p1 < 5) : Cv l G yX10_tell wsX10_tell (rmL 1) [.ref (ad 0), .int p0, .int p1] (wX10 G ad a0 a1 a2 a3 a4 a5 a6 a7 a8 a9 a10 a11 a12 a13 a14 a15 a16 a17 a18 a19 a20 a21 a22 a23 a24 a25 a26 a27 a28 a29 a30 a31 a32 a33 a34 a35 a36 a37 a38) (wX10 G ad a0 a1 a2 a3 a4 a5 a6 a7 a8 (sX10_tell_9 a0 a1 a5 a6 a7 a9 p0 p1) a10 a11 a12 a13 a14 a15 a16 a17 a18 a19 a20 a21 a22 a23 a24 a25 a26 a27 a28 a29 a30 a31 a32 a33 a34 a35 a36 a37 a38) := by
  refine cv_start (by decide) rfl rfl (Nat.le_of_ble_eq_true rfl) ?_
  intro p e s m args below meth c A X
  refine s_perm (lv2 := [(0, .ref (ad 0)), (1, .int p0), (2, .int p1)]) [0, 1, 2] rfl ?_
  refine s_aload_n X (pc := 0) (x := (ad 0)) 0 dX10_tell_0 rfl ?_
  refine s_aload_n X (pc := 1) (x := (ad 0)) 0 dX10_tell_1 rfl ?_
  refine s_get X (pc := 2) (v := .ref (ad 10)) iX10_tell_X10 0 rfl rfl 9 (by decide) kX10_tell_28 rfl rfl dX10_tell_2 ?_
  refine s_iload_n X (pc := 5) (x := p0) 1 dX10_tell_5 rfl ?_
  refine s_iald X (pc := 6) (n := 23) (f := a9) 7 rfl (by first | with_reducible assumption | exact vin (b := 23) rfl (by grind) (by grind)) dX10_tell_6 ?_
  refine s_iconst X (pc := 7) (v := 0) dX10_tell_7 (by decide) ?_
  refine s_callVi0 X (pc := 8) (r := rX10_depthBehind a0 a1 a9 (a9 p0.toNatClampNeg) (0 : Int32)) (w := wX10 G ad a0 a1 a2 a3 a4 a5 a6 a7 a8 a9 a10 a11 a12 a13 a14 a15 a16 a17 a18 a19 a20 a21 a22 a23 a24 a25 a26 a27 a28 a29 a30 a31 a32 a33 a34 a35 a36 a37 a38) (n := 2) (st := []) (As := [.int (a9 p0.toNatClampNeg), .int (0 : Int32)]) (w2 := wX10 G ad a0 a1 a2 a3 a4 a5 a6 a7 a8 a9 a10 a11 a12 a13 a14 a15 a16 a17 a18 a19 a20 a21 a22 a23 a24 a25 a26 a27 a28 a29 a30 a31 a32 a33 a34 a35 a36 a37 a38) 0 (c_X10_depthBehind l G ad a0 a1 a2 a3 a4 a5 a6 a7 a8 a9 a10 a11 a12 a13 a14 a15 a16 a17 a18 a19 a20 a21 a22 a23 a24 a25 a26 a27 a28 a29 a30 a31 a32 a33 a34 a35 a36 a37 a38 (a9 p0.toNatClampNeg) (0 : Int32) tp t12 (by rw [show a9 22 + 0 = a9 22 from by grind]; exact n0)) gX10_tell_X10_depthBehind rfl (by decide +kernel) ⟨Nat.le_of_ble_eq_true rfl, Nat.le_of_ble_eq_true rfl⟩ 0 rfl rfl rfl rfl (Nat.le_of_ble_eq_true rfl) (Nat.zero_le _) (Nat.zero_le _) dX10_tell_8 ?_
  refine s_istore_n X (pc := 11) (i := 3) (lv2 := [(3, .int (rX10_depthBehind a0 a1 a9 (a9 p0.toNatClampNeg) (0 : Int32))), (0, .ref (ad 0)), (1, .int p0), (2, .int p1)]) dX10_tell_11 rfl (by decide) rfl ?_
  refine s_iload_n X (pc := 12) (x := rX10_depthBehind a0 a1 a9 (a9 p0.toNatClampNeg) (0 : Int32)) 0 dX10_tell_12 rfl ?_
  refine s_aload_n X (pc := 13) (x := (ad 0)) 1 dX10_tell_13 rfl ?_
  refine s_get X (pc := 14) (v := .ref (ad 6)) iX10_tell_X10 0 rfl rfl 5 (by decide) kX10_tell_16 rfl rfl dX10_tell_14 ?_
  refine s_iload_n X (pc := 17) (x := p1) 3 dX10_tell_17 rfl ?_
  refine s_iald X (pc := 18) (n := 5) (f := a5) 3 rfl (by first | with_reducible assumption | exact vin (b := 5) rfl (by grind) (by grind)) dX10_tell_18 ?_
  refine s_aload_n X (pc := 19) (x := (ad 0)) 1 dX10_tell_19 rfl ?_
  refine s_get X (pc := 20) (v := .ref (ad 8)) iX10_tell_X10 0 rfl rfl 7 (by decide) kX10_tell_22 rfl rfl dX10_tell_20 ?_
  refine s_iload_n X (pc := 23) (x := p1) 3 dX10_tell_23 rfl ?_
  refine s_iald X (pc := 24) (n := 5) (f := a7) 5 rfl (by first | with_reducible assumption | exact vin (b := 5) rfl (by grind) (by grind)) dX10_tell_24 ?_
  refine s_iadd X (pc := 25) dX10_tell_25 ?_
  refine s_icmp_le X (pc := 26) (tgt := 51) dX10_tell_26 (by decide) (fun c26 => ?_) (fun c26 => ?_)
  ·
    refine s_iload_n X (pc := 51) (x := rX10_depthBehind a0 a1 a9 (a9 p0.toNatClampNeg) (0 : Int32)) 0 dX10_tell_51 rfl ?_
    refine s_aload_n X (pc := 52) (x := (ad 0)) 1 dX10_tell_52 rfl ?_
    refine s_get X (pc := 53) (v := .ref (ad 6)) iX10_tell_X10 0 rfl rfl 5 (by decide) kX10_tell_16 rfl rfl dX10_tell_53 ?_
    refine s_iload_n X (pc := 56) (x := p1) 3 dX10_tell_56 rfl ?_
    refine s_iald X (pc := 57) (n := 5) (f := a5) 3 rfl (by first | with_reducible assumption | exact vin (b := 5) rfl (by grind) (by grind)) dX10_tell_57 ?_
    refine s_icmp_lt X (pc := 58) (tgt := 111) dX10_tell_58 (by decide) (fun c58 => ?_) (fun c58 => ?_)
    ·
      exact s_vret X (pc := 111) dX10_tell_111 (by rw [show sX10_tell_9 a0 a1 a5 a6 a7 a9 p0 p1 = a9 from (by unfold sX10_tell_9; exact ((if_pos c26).trans (if_pos c58)))])
    ·
      refine s_aload_n X (pc := 61) (x := (ad 0)) 1 dX10_tell_61 rfl ?_
      refine s_get X (pc := 62) (v := .ref (ad 10)) iX10_tell_X10 0 rfl rfl 9 (by decide) kX10_tell_28 rfl rfl dX10_tell_62 ?_
      refine s_bipush X (pc := 65) (v := 17) dX10_tell_65 (by decide) ?_
      refine s_iload_n X (pc := 67) (x := p1) 3 dX10_tell_67 rfl ?_
      refine s_iadd X (pc := 68) dX10_tell_68 ?_
      refine s_dup2 X (pc := 69) dX10_tell_69 rfl rfl ?_
      refine s_iald X (pc := 70) (n := 23) (f := a9) 7 rfl (by first | with_reducible assumption | exact vin (b := 23) rfl (by grind) (by grind)) dX10_tell_70 ?_
      refine s_iconst X (pc := 71) (v := 1) dX10_tell_71 (by decide) ?_
      refine s_iadd X (pc := 72) dX10_tell_72 ?_
      refine s_iast X (pc := 73) (n := 23) (f := a9) (w2 := wX10 G ad a0 a1 a2 a3 a4 a5 a6 a7 a8 (upd a9 ((17 : Int32) + p1).toNatClampNeg ((a9 ((17 : Int32) + p1).toNatClampNeg) + (1 : Int32))) a10 a11 a12 a13 a14 a15 a16 a17 a18 a19 a20 a21 a22 a23 a24 a25 a26 a27 a28 a29 a30 a31 a32 a33 a34 a35 a36 a37 a38) 7 rfl (by first | with_reducible assumption | exact vin (b := 23) rfl (by grind) (by grind)) rfl dX10_tell_73 ?_
      refine s_aload_n X (pc := 74) (x := (ad 0)) 1 dX10_tell_74 rfl ?_
      refine s_get X (pc := 75) (v := .ref (ad 10)) iX10_tell_X10 0 rfl rfl 9 (by decide) kX10_tell_28 rfl rfl dX10_tell_75 ?_
      refine s_bipush X (pc := 78) (v := 17) dX10_tell_78 (by decide) ?_
      refine s_iload_n X (pc := 80) (x := p1) 3 dX10_tell_80 rfl ?_
      refine s_iadd X (pc := 81) dX10_tell_81 ?_
      refine s_iald X (pc := 82) (n := 23) (f := upd a9 ((17 : Int32) + p1).toNatClampNeg ((a9 ((17 : Int32) + p1).toNatClampNeg) + (1 : Int32))) 7 rfl (by first | with_reducible assumption | exact vin (b := 23) rfl (by grind) (by grind)) dX10_tell_82 ?_
      refine s_topeq pk_us ?_
      refine s_aload_n X (pc := 83) (x := (ad 0)) 1 dX10_tell_83 rfl ?_
      refine s_get X (pc := 84) (v := .ref (ad 7)) iX10_tell_X10 0 rfl rfl 6 (by decide) kX10_tell_19 rfl rfl dX10_tell_84 ?_
      refine s_iload_n X (pc := 87) (x := p1) 3 dX10_tell_87 rfl ?_
      refine s_iald X (pc := 88) (n := 5) (f := a6) 4 rfl (by first | with_reducible assumption | exact vin (b := 5) rfl (by grind) (by grind)) dX10_tell_88 ?_
      refine s_icmp_lt X (pc := 89) (tgt := 111) dX10_tell_89 (by decide) (fun c89 => ?_) (fun c89 => ?_)
      ·
        exact s_vret X (pc := 111) dX10_tell_111 (by rw [show sX10_tell_9 a0 a1 a5 a6 a7 a9 p0 p1 = upd a9 ((17 : Int32) + p1).toNatClampNeg ((a9 ((17 : Int32) + p1).toNatClampNeg) + (1 : Int32)) from (by unfold sX10_tell_9; exact ((if_pos c26).trans ((if_neg c58).trans (if_pos c89))))])
      ·
        refine s_aload_n X (pc := 92) (x := (ad 0)) 1 dX10_tell_92 rfl ?_
        refine s_get X (pc := 93) (v := .ref (ad 10)) iX10_tell_X10 0 rfl rfl 9 (by decide) kX10_tell_28 rfl rfl dX10_tell_93 ?_
        refine s_bipush X (pc := 96) (v := 12) dX10_tell_96 (by decide) ?_
        refine s_iload_n X (pc := 98) (x := p1) 3 dX10_tell_98 rfl ?_
        refine s_iadd X (pc := 99) dX10_tell_99 ?_
        refine s_iconst X (pc := 100) (v := 2) dX10_tell_100 (by decide) ?_
        refine s_iast X (pc := 101) (n := 23) (f := upd a9 ((17 : Int32) + p1).toNatClampNeg ((a9 ((17 : Int32) + p1).toNatClampNeg) + (1 : Int32))) (w2 := wX10 G ad a0 a1 a2 a3 a4 a5 a6 a7 a8 (upd (upd a9 ((17 : Int32) + p1).toNatClampNeg ((a9 ((17 : Int32) + p1).toNatClampNeg) + (1 : Int32))) ((12 : Int32) + p1).toNatClampNeg (2 : Int32)) a10 a11 a12 a13 a14 a15 a16 a17 a18 a19 a20 a21 a22 a23 a24 a25 a26 a27 a28 a29 a30 a31 a32 a33 a34 a35 a36 a37 a38) 7 rfl (by first | with_reducible assumption | exact vin (b := 23) rfl (by grind) (by grind)) rfl dX10_tell_101 ?_
        refine s_aload_n X (pc := 102) (x := (ad 0)) 1 dX10_tell_102 rfl ?_
        refine s_get X (pc := 103) (v := .ref (ad 10)) iX10_tell_X10 0 rfl rfl 9 (by decide) kX10_tell_28 rfl rfl dX10_tell_103 ?_
        refine s_iconst X (pc := 106) (v := 4) dX10_tell_106 (by decide) ?_
        refine s_iload_n X (pc := 107) (x := p0) 2 dX10_tell_107 rfl ?_
        refine s_iadd X (pc := 108) dX10_tell_108 ?_
        refine s_iconst X (pc := 109) (v := -1) dX10_tell_109 (by decide) ?_
        refine s_iast X (pc := 110) (n := 23) (f := upd (upd a9 ((17 : Int32) + p1).toNatClampNeg ((a9 ((17 : Int32) + p1).toNatClampNeg) + (1 : Int32))) ((12 : Int32) + p1).toNatClampNeg (2 : Int32)) (w2 := wX10 G ad a0 a1 a2 a3 a4 a5 a6 a7 a8 (upd (upd (upd a9 ((17 : Int32) + p1).toNatClampNeg ((a9 ((17 : Int32) + p1).toNatClampNeg) + (1 : Int32))) ((12 : Int32) + p1).toNatClampNeg (2 : Int32)) ((4 : Int32) + p0).toNatClampNeg (-1 : Int32)) a10 a11 a12 a13 a14 a15 a16 a17 a18 a19 a20 a21 a22 a23 a24 a25 a26 a27 a28 a29 a30 a31 a32 a33 a34 a35 a36 a37 a38) 7 rfl (by first | with_reducible assumption | exact vin (b := 23) rfl (by grind) (by grind)) rfl dX10_tell_110 ?_
        exact s_vret X (pc := 111) dX10_tell_111 (by rw [show sX10_tell_9 a0 a1 a5 a6 a7 a9 p0 p1 = upd (upd (upd a9 ((17 : Int32) + p1).toNatClampNeg ((a9 ((17 : Int32) + p1).toNatClampNeg) + (1 : Int32))) ((12 : Int32) + p1).toNatClampNeg (2 : Int32)) ((4 : Int32) + p0).toNatClampNeg (-1 : Int32) from (by unfold sX10_tell_9; exact ((if_pos c26).trans ((if_neg c58).trans (if_neg c89))))])
  ·
    refine s_aload_n X (pc := 29) (x := (ad 0)) 1 dX10_tell_29 rfl ?_
    refine s_get X (pc := 30) (v := .ref (ad 10)) iX10_tell_X10 0 rfl rfl 9 (by decide) kX10_tell_28 rfl rfl dX10_tell_30 ?_
    refine s_bipush X (pc := 33) (v := 12) dX10_tell_33 (by decide) ?_
    refine s_iload_n X (pc := 35) (x := p1) 3 dX10_tell_35 rfl ?_
    refine s_iadd X (pc := 36) dX10_tell_36 ?_
    refine s_iconst X (pc := 37) (v := 4) dX10_tell_37 (by decide) ?_
    refine s_iast X (pc := 38) (n := 23) (f := a9) (w2 := wX10 G ad a0 a1 a2 a3 a4 a5 a6 a7 a8 (upd a9 ((12 : Int32) + p1).toNatClampNeg (4 : Int32)) a10 a11 a12 a13 a14 a15 a16 a17 a18 a19 a20 a21 a22 a23 a24 a25 a26 a27 a28 a29 a30 a31 a32 a33 a34 a35 a36 a37 a38) 7 rfl (by first | with_reducible assumption | exact vin (b := 23) rfl (by grind) (by grind)) rfl dX10_tell_38 ?_
    refine s_aload_n X (pc := 39) (x := (ad 0)) 1 dX10_tell_39 rfl ?_
    refine s_get X (pc := 40) (v := .ref (ad 10)) iX10_tell_X10 0 rfl rfl 9 (by decide) kX10_tell_28 rfl rfl dX10_tell_40 ?_
    refine s_iconst X (pc := 43) (v := 4) dX10_tell_43 (by decide) ?_
    refine s_iload_n X (pc := 44) (x := p0) 2 dX10_tell_44 rfl ?_
    refine s_iadd X (pc := 45) dX10_tell_45 ?_
    refine s_iconst X (pc := 46) (v := -1) dX10_tell_46 (by decide) ?_
    refine s_iast X (pc := 47) (n := 23) (f := upd a9 ((12 : Int32) + p1).toNatClampNeg (4 : Int32)) (w2 := wX10 G ad a0 a1 a2 a3 a4 a5 a6 a7 a8 (upd (upd a9 ((12 : Int32) + p1).toNatClampNeg (4 : Int32)) ((4 : Int32) + p0).toNatClampNeg (-1 : Int32)) a10 a11 a12 a13 a14 a15 a16 a17 a18 a19 a20 a21 a22 a23 a24 a25 a26 a27 a28 a29 a30 a31 a32 a33 a34 a35 a36 a37 a38) 7 rfl (by first | with_reducible assumption | exact vin (b := 23) rfl (by grind) (by grind)) rfl dX10_tell_47 ?_
    refine s_goto X (pc := 48) (tgt := 111) dX10_tell_48 (by decide) ?_
    exact s_vret X (pc := 111) dX10_tell_111 (by rw [show sX10_tell_9 a0 a1 a5 a6 a7 a9 p0 p1 = upd (upd a9 ((12 : Int32) + p1).toNatClampNeg (4 : Int32)) ((4 : Int32) + p0).toNatClampNeg (-1 : Int32) from (by unfold sX10_tell_9; exact (if_neg c26))])
