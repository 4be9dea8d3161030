theorem iX10_shout_X10 : ∀ z ∈ wsX100, z ∈ wsX10_shout := fun z h => List.mem_cons_of_mem _ (List.mem_append_right _ h)
theorem kX10_shout_l255 : Jvm.Cond.constantLong RX10 255 (10) ∈ wsX10_shout := List.mem_of_getElem? (i := 1) rfl
theorem kX10_shout_161 : Cond.fieldLink RX10 161 "BathingCourtModel" (TX10 31).2.1 (TX10 31).2.2.1 ∈ wsX10_shout := List.mem_of_getElem? (i := 3) rfl
theorem kX10_shout_68 : Cond.fieldLink RX10 68 "BathingCourtModel" (TX10 32).2.1 (TX10 32).2.2.1 ∈ wsX10_shout := List.mem_of_getElem? (i := 5) rfl
theorem kX10_shout_71 : Cond.fieldLink RX10 71 "BathingCourtModel" (TX10 33).2.1 (TX10 33).2.2.1 ∈ wsX10_shout := List.mem_of_getElem? (i := 6) rfl
theorem kX10_shout_c105 : Jvm.Cond.constant RX10 105 (-1000000004) ∈ wsX10_shout := List.mem_of_getElem? (i := 4) rfl
theorem kX10_shout_c101 : Jvm.Cond.constant RX10 101 (-1000000002) ∈ wsX10_shout := List.mem_of_getElem? (i := 2) rfl
def rX10_shout (a31 p0 : Int32) : Int32 := if (rX10_in p0.toInt64 (0 : Int64) (10 : Int64)) = 0 then (-1000000002 : Int32) else (if a31 = (6 : Int32) then (-1000000004 : Int32) else (a31 + (1 : Int32)))
def sX10_shout_31 (a31 p0 : Int32) : Int32 := if (rX10_in p0.toInt64 (0 : Int64) (10 : Int64)) = 0 then a31 else (if a31 = (6 : Int32) then a31 else (a31 + (1 : Int32)))
def sX10_shout_32 (a31 : Int32) (a32 : Nat → Int32) (p0 : Int32) : Nat → Int32 := if (rX10_in p0.toInt64 (0 : Int64) (10 : Int64)) = 0 then a32 else (if a31 = (6 : Int32) then a32 else (upd a32 a31.toNatClampNeg p0))
def sX10_shout_33 (a31 : Int32) (a33 : Nat → Int32) (p0 p1 : Int32) : Nat → Int32 := if (rX10_in p0.toInt64 (0 : Int64) (10 : Int64)) = 0 then a33 else (if a31 = (6 : Int32) then a33 else (upd a33 a31.toNatClampNeg p1))
set_option maxRecDepth 100000 in
set_option maxHeartbeats 4000000 in
theorem c_X10_shout (l : Launch) (G : GT) (ad : Nat → Nat) (a0 : Int32) (a1 : Nat → Int32) (a2 : Int32) (a3 : Nat → Int32) (a4 : Int32) (a5 a6 a7 a8 a9 : Nat → Int32) (a10 : Int32) (a11 : Nat → Int32) (a12 a13 a14 a15 a16 a17 : Int32) (a18 : Nat → Int32) (a19 : Int32) (a20 : Nat → Int32) (a21 : Int32) (a22 a23 a24 a25 : Nat → Int32) (a26 : Int32) (a27 a28 a29 a30 : Nat → Int32) (a31 : Int32) (a32 a33 : Nat → Int32) (a34 : Int32) (a35 a36 a37 a38 : Nat → Int32) (p0 p1 : Int32) (h0 : 0 ≤ a31) (h6 : a31 ≤ 6) (hz : p1 = 0 ∨ p1 = 1) : Ci l G yX10_shout wsX10_shout (rmL 1) [.ref (ad 0), .int p0, .int p1] (wX10 G ad a0 a1 a2 a3 a4 a5 a6 a7 a8 a9 a10 a11 a12 a13 a14 a15 a16 a17 a18 a19 a20 a21 a22 a23 a24 a25 a26 a27 a28 a29 a30 a31 a32 a33 a34 a35 a36 a37 a38) (rX10_shout a31 p0) (wX10 G ad a0 a1 a2 a3 a4 a5 a6 a7 a8 a9 a10 a11 a12 a13 a14 a15 a16 a17 a18 a19 a20 a21 a22 a23 a24 a25 a26 a27 a28 a29 a30 (sX10_shout_31 a31 p0) (sX10_shout_32 a31 a32 p0) (sX10_shout_33 a31 a33 p0 p1) a34 a35 a36 a37 a38) := by
  refine ci_start .int (by decide) rfl rfl (Nat.le_of_ble_eq_true rfl) ?_
  intro p e s m args below meth c A X
  refine s_perm (lv2 := [(0, .ref (ad 0)), (1, .int p0), (2, .int p1)]) [0, 1, 2] rfl ?_
  refine s_iload_n X (pc := 0) (x := p0) 1 dX10_shout_0 rfl ?_
  refine s_i2l X (pc := 1) dX10_shout_1 ?_
  refine s_lconst X (pc := 2) (v := 0) dX10_shout_2 (by decide) ?_
  refine s_ldc2 X (pc := 3) (v := 10) kX10_shout_l255 dX10_shout_3 ?_
  refine s_callSiN X (pc := 6) (r := rX10_in p0.toInt64 (0 : Int64) (10 : Int64)) (n := 3) (st := []) (As := [.long p0.toInt64, .long (0 : Int64), .long (10 : Int64)]) 0 (c_X10_in l G p0.toInt64 (0 : Int64) (10 : Int64)) gX10_shout_X10_in rfl (by decide +kernel) ⟨Nat.le_of_ble_eq_true rfl, Nat.le_of_ble_eq_true rfl⟩ rfl rfl (Nat.le_of_ble_eq_true rfl) (Nat.zero_le _) (Nat.zero_le _) dX10_shout_6 ?_
  refine s_if_ne X (pc := 9) (tgt := 15) dX10_shout_9 (by decide) (fun c9 => ?_) (fun c9 => ?_)
  ·
    refine s_aload_n X (pc := 15) (x := (ad 0)) 0 dX10_shout_15 rfl ?_
    refine s_get X (pc := 16) (v := .int a31) iX10_shout_X10 0 rfl rfl 31 (by decide) kX10_shout_161 rfl rfl dX10_shout_16 ?_
    refine s_bipush X (pc := 19) (v := 6) dX10_shout_19 (by decide) ?_
    refine s_icmp_ne X (pc := 21) (tgt := 27) dX10_shout_21 (by decide) (fun c21 => ?_) (fun c21 => ?_)
    ·
      refine s_aload_n X (pc := 27) (x := (ad 0)) 0 dX10_shout_27 rfl ?_
      refine s_get X (pc := 28) (v := .ref (ad 33)) iX10_shout_X10 0 rfl rfl 32 (by decide) kX10_shout_68 rfl rfl dX10_shout_28 ?_
      refine s_aload_n X (pc := 31) (x := (ad 0)) 0 dX10_shout_31 rfl ?_
      refine s_get X (pc := 32) (v := .int a31) iX10_shout_X10 0 rfl rfl 31 (by decide) kX10_shout_161 rfl rfl dX10_shout_32 ?_
      refine s_iload_n X (pc := 35) (x := p0) 1 dX10_shout_35 rfl ?_
      refine s_iast X (pc := 36) (n := 6) (f := a32) (w2 := wX10 G ad a0 a1 a2 a3 a4 a5 a6 a7 a8 a9 a10 a11 a12 a13 a14 a15 a16 a17 a18 a19 a20 a21 a22 a23 a24 a25 a26 a27 a28 a29 a30 a31 (upd a32 a31.toNatClampNeg p0) a33 a34 a35 a36 a37 a38) 19 rfl (by first | with_reducible assumption | exact vin (b := 6) rfl (by grind) (by grind)) rfl dX10_shout_36 ?_
      refine s_aload_n X (pc := 37) (x := (ad 0)) 0 dX10_shout_37 rfl ?_
      refine s_get X (pc := 38) (v := .ref (ad 34)) iX10_shout_X10 0 rfl rfl 33 (by decide) kX10_shout_71 rfl rfl dX10_shout_38 ?_
      refine s_aload_n X (pc := 41) (x := (ad 0)) 0 dX10_shout_41 rfl ?_
      refine s_get X (pc := 42) (v := .int a31) iX10_shout_X10 0 rfl rfl 31 (by decide) kX10_shout_161 rfl rfl dX10_shout_42 ?_
      refine s_iload_n X (pc := 45) (x := p1) 2 dX10_shout_45 rfl ?_
      refine s_zast X (pc := 46) (n := 6) (f := a33) (w2 := wX10 G ad a0 a1 a2 a3 a4 a5 a6 a7 a8 a9 a10 a11 a12 a13 a14 a15 a16 a17 a18 a19 a20 a21 a22 a23 a24 a25 a26 a27 a28 a29 a30 a31 (upd a32 a31.toNatClampNeg p0) (upd a33 a31.toNatClampNeg p1) a34 a35 a36 a37 a38) 20 rfl (by first | with_reducible assumption | exact vin (b := 6) rfl (by grind) (by grind)) hz rfl dX10_shout_46 ?_
      refine s_aload_n X (pc := 47) (x := (ad 0)) 0 dX10_shout_47 rfl ?_
      refine s_dup X (pc := 48) dX10_shout_48 rfl ?_
      refine s_get X (pc := 49) (v := .int a31) iX10_shout_X10 0 rfl rfl 31 (by decide) kX10_shout_161 rfl rfl dX10_shout_49 ?_
      refine s_iconst X (pc := 52) (v := 1) dX10_shout_52 (by decide) ?_
      refine s_iadd X (pc := 53) dX10_shout_53 ?_
      refine s_put X (pc := 54) (v := .int (a31 + (1 : Int32))) (w2 := wX10 G ad a0 a1 a2 a3 a4 a5 a6 a7 a8 a9 a10 a11 a12 a13 a14 a15 a16 a17 a18 a19 a20 a21 a22 a23 a24 a25 a26 a27 a28 a29 a30 (a31 + (1 : Int32)) (upd a32 a31.toNatClampNeg p0) (upd a33 a31.toNatClampNeg p1) a34 a35 a36 a37 a38) iX10_shout_X10 0 rfl rfl 31 (by decide) kX10_shout_161 rfl tyX10 tyX10_ok nmX10 rfl (ty := .int) (by decide +kernel) rfl rfl (Nat.le_of_ble_eq_true rfl) rfl dX10_shout_54 ?_
      refine s_aload_n X (pc := 57) (x := (ad 0)) 0 dX10_shout_57 rfl ?_
      refine s_get X (pc := 58) (v := .int (a31 + (1 : Int32))) iX10_shout_X10 0 rfl rfl 31 (by decide) kX10_shout_161 rfl rfl dX10_shout_58 ?_
      exact s_iret X (pc := 61) (v := a31 + (1 : Int32)) dX10_shout_61 (Eq.symm (show rX10_shout a31 p0 = a31 + (1 : Int32) from (by unfold rX10_shout; exact ((if_neg c9).trans (if_neg c21))))) (by rw [show sX10_shout_31 a31 p0 = a31 + (1 : Int32) from (by unfold sX10_shout_31; exact ((if_neg c9).trans (if_neg c21))), show sX10_shout_32 a31 a32 p0 = upd a32 a31.toNatClampNeg p0 from (by unfold sX10_shout_32; exact ((if_neg c9).trans (if_neg c21))), show sX10_shout_33 a31 a33 p0 p1 = upd a33 a31.toNatClampNeg p1 from (by unfold sX10_shout_33; exact ((if_neg c9).trans (if_neg c21)))])
    ·
      refine s_ldc X (pc := 24) (v := -1000000004) kX10_shout_c105 dX10_shout_24 ?_
      exact s_iret X (pc := 26) (v := (-1000000004 : Int32)) dX10_shout_26 (Eq.symm (show rX10_shout a31 p0 = (-1000000004 : Int32) from (by unfold rX10_shout; exact ((if_neg c9).trans (if_pos c21))))) (by rw [show sX10_shout_31 a31 p0 = a31 from (by unfold sX10_shout_31; exact ((if_neg c9).trans (if_pos c21))), show sX10_shout_32 a31 a32 p0 = a32 from (by unfold sX10_shout_32; exact ((if_neg c9).trans (if_pos c21))), show sX10_shout_33 a31 a33 p0 p1 = a33 from (by unfold sX10_shout_33; exact ((if_neg c9).trans (if_pos c21)))])
  ·
    refine s_ldc X (pc := 12) (v := -1000000002) kX10_shout_c101 dX10_shout_12 ?_
    exact s_iret X (pc := 14) (v := (-1000000002 : Int32)) dX10_shout_14 (Eq.symm (show rX10_shout a31 p0 = (-1000000002 : Int32) from (by unfold rX10_shout; exact (if_pos c9)))) (by rw [show sX10_shout_31 a31 p0 = a31 from (by unfold sX10_shout_31; exact (if_pos c9)), show sX10_shout_32 a31 a32 p0 = a32 from (by unfold sX10_shout_32; exact (if_pos c9)), show sX10_shout_33 a31 a33 p0 p1 = a33 from (by unfold sX10_shout_33; exact (if_pos c9))])

theorem iX10_bearsNow_X10 : ∀ z ∈ wsX100, z ∈ wsX10_bearsNow := fun z h => List.mem_cons_of_mem _ (List.mem_append_right _ h)
theorem kX10_bearsNow_161 : Cond.fieldLink RX10 161 "BathingCourtModel" (TX10 31).2.1 (TX10 31).2.2.1 ∈ wsX10_bearsNow := List.mem_of_getElem? (i := 1) rfl
theorem kX10_bearsNow_68 : Cond.fieldLink RX10 68 "BathingCourtModel" (TX10 32).2.1 (TX10 32).2.2.1 ∈ wsX10_bearsNow := List.mem_of_getElem? (i := 2) rfl
theorem kX10_bearsNow_71 : Cond.fieldLink RX10 71 "BathingCourtModel" (TX10 33).2.1 (TX10 33).2.2.1 ∈ wsX10_bearsNow := List.mem_of_getElem? (i := 3) rfl
def aX10_bearsNow_15 (a32 a33 : Nat → Int32) (k4 : Nat) : Nat → Int32
  | 0 => (1 : Int32)
  | k15 + 1 => if (aX10_bearsNow_15 a32 a33 k4 k15) = 0 then (0 : Int32) else (if (a32 (nI k15).toNatClampNeg) ≤ (nI k4) then (if (0 : Int32) = (a33 (nI k15).toNatClampNeg) then (1 : Int32) else (0 : Int32)) else (if (1 : Int32) = (a33 (nI k15).toNatClampNeg) then (1 : Int32) else (0 : Int32)))
def aX10_bearsNow_4 (a31 : Int32) (a32 a33 : Nat → Int32) : Nat → Int32
  | 0 => (0 : Int32)
  | k4 + 1 => if (aX10_bearsNow_15 a32 a33 k4 a31.toNatClampNeg) = 0 then ((aX10_bearsNow_4 a31 a32 a33 k4) ||| (0 : Int32)) else ((aX10_bearsNow_4 a31 a32 a33 k4) ||| ((1 : Int32) <<< ((nI k4) &&& 31)))
def rX10_bearsNow (a31 : Int32) (a32 a33 : Nat → Int32) : Int32 := (aX10_bearsNow_4 a31 a32 a33 11)
set_option maxRecDepth 100000 in
set_option maxHeartbeats 4000000 in
theorem c_X10_bearsNow (l : Launch) (G : GT) (ad : Nat → Nat) (a0 : Int32) (a1 : Nat → Int32) (a2 : Int32) (a3 : Nat → Int32) (a4 : Int32) (a5 a6 a7 a8 a9 : Nat → Int32) (a10 : Int32) (a11 : Nat → Int32) (a12 a13 a14 a15 a16 a17 : Int32) (a18 : Nat → Int32) (a19 : Int32) (a20 : Nat → Int32) (a21 : Int32) (a22 a23 a24 a25 : Nat → Int32) (a26 : Int32) (a27 a28 a29 a30 : Nat → Int32) (a31 : Int32) (a32 a33 : Nat → Int32) (a34 : Int32) (a35 a36 a37 a38 : Nat → Int32) (h0 : 0 ≤ a31) (h6 : a31 ≤ 6) : Ci l G yX10_bearsNow wsX10_bearsNow (rmL 0) [.ref (ad 0)] (wX10 G ad a0 a1 a2 a3 a4 a5 a6 a7 a8 a9 a10 a11 a12 a13 a14 a15 a16 a17 a18 a19 a20 a21 a22 a23 a24 a25 a26 a27 a28 a29 a30 a31 a32 a33 a34 a35 a36 a37 a38) (rX10_bearsNow a31 a32 a33) (wX10 G ad a0 a1 a2 a3 a4 a5 a6 a7 a8 a9 a10 a11 a12 a13 a14 a15 a16 a17 a18 a19 a20 a21 a22 a23 a24 a25 a26 a27 a28 a29 a30 a31 a32 a33 a34 a35 a36 a37 a38) := by
  refine ci_start .int (by decide) rfl rfl (Nat.le_of_ble_eq_true rfl) ?_
  intro p e s m args below meth c A X
  have e31 := clampInt h0
  have hN31 := clampLe (n := 6) (b := 6) rfl h0 h6
  refine s_perm (lv2 := [(0, .ref (ad 0))]) [0] rfl ?_
  refine s_iconst X (pc := 0) (v := 0) dX10_bearsNow_0 (by decide) ?_
  refine s_istore_n X (pc := 1) (i := 1) (lv2 := [(1, .int (0 : Int32)), (0, .ref (ad 0))]) dX10_bearsNow_1 rfl (by decide) rfl ?_
  refine s_iconst X (pc := 2) (v := 0) dX10_bearsNow_2 (by decide) ?_
  refine s_istore_n X (pc := 3) (i := 2) (lv2 := [(2, .int (0 : Int32)), (1, .int (0 : Int32)), (0, .ref (ad 0))]) dX10_bearsNow_3 rfl (by decide) rfl ?_
  refine s_perm (lv2 := [(0, .ref (ad 0)), (1, .int (0 : Int32)), (2, .int (0 : Int32))]) [2, 1, 0] rfl ?_
  have L4 : ∀ (n4 k4 : Nat), k4 + n4 = 11 → Sm p l e (rmL 0) s m args below meth c G A 5 0 0 (Qci below G A args s (rX10_bearsNow a31 a32 a33) (wX10 G ad a0 a1 a2 a3 a4 a5 a6 a7 a8 a9 a10 a11 a12 a13 a14 a15 a16 a17 a18 a19 a20 a21 a22 a23 a24 a25 a26 a27 a28 a29 a30 a31 a32 a33 a34 a35 a36 a37 a38)) 4 [(0, .ref (ad 0)), (1, .int (aX10_bearsNow_4 a31 a32 a33 k4)), (2, .int (nI k4))] [] (wX10 G ad a0 a1 a2 a3 a4 a5 a6 a7 a8 a9 a10 a11 a12 a13 a14 a15 a16 a17 a18 a19 a20 a21 a22 a23 a24 a25 a26 a27 a28 a29 a30 a31 a32 a33 a34 a35 a36 a37 a38) := by
    intro n4
    induction n4 with
    | zero =>
      intro k4 hk4
      have hK4 : k4 = 11 := by omega
      rw [hK4]
      have tk4 : (nI 11).toInt = ((11 : Nat) : Int) := nI_toInt (by omega)
      have eN4 : ((11 : Int32)).toInt = ((11 : Nat) : Int) := rfl
      refine s_iload_n X (pc := 4) (x := nI 11) 2 dX10_bearsNow_4 rfl ?_
      refine s_bipush X (pc := 5) (v := 11) dX10_bearsNow_5 (by decide) ?_
      refine s_icmp_ge X (pc := 7) (tgt := 86) dX10_bearsNow_7 (by decide) (fun c7 => ?_) (fun c7 => ?_)
      ·
        refine s_iload_n X (pc := 86) (x := (aX10_bearsNow_4 a31 a32 a33 11)) 1 dX10_bearsNow_86 rfl ?_
        exact s_iret X (pc := 87) (v := (aX10_bearsNow_4 a31 a32 a33 11)) dX10_bearsNow_87 rfl rfl
      ·
        exact absurd ((t_le eN4 tk4).mpr (by omega)) c7
    | succ n4 ih4 =>
      intro k4 hk4
      have hlt4 : k4 < 11 := by omega
      have tk4 : (nI k4).toInt = ((k4 : Nat) : Int) := nI_toInt (by omega)
      have eN4 : ((11 : Int32)).toInt = ((11 : Nat) : Int) := rfl
      refine s_iload_n X (pc := 4) (x := nI k4) 2 dX10_bearsNow_4 rfl ?_
      refine s_bipush X (pc := 5) (v := 11) dX10_bearsNow_5 (by decide) ?_
      refine s_icmp_ge X (pc := 7) (tgt := 86) dX10_bearsNow_7 (by decide) (fun c7 => ?_) (fun c7 => ?_)
      ·
        exact absurd ((t_le eN4 tk4).mp c7) (by omega)
      ·
        refine s_iconst X (pc := 10) (v := 1) dX10_bearsNow_10 (by decide) ?_
        refine s_istore_n X (pc := 11) (i := 3) (lv2 := [(3, .int (1 : Int32)), (0, .ref (ad 0)), (1, .int (aX10_bearsNow_4 a31 a32 a33 k4)), (2, .int (nI k4))]) dX10_bearsNow_11 rfl (by decide) rfl ?_
        refine s_iconst X (pc := 12) (v := 0) dX10_bearsNow_12 (by decide) ?_
        refine s_istore X (pc := 13) (i := 4) (lv2 := [(4, .int (0 : Int32)), (3, .int (1 : Int32)), (0, .ref (ad 0)), (1, .int (aX10_bearsNow_4 a31 a32 a33 k4)), (2, .int (nI k4))]) dX10_bearsNow_13 (by decide) rfl ?_
        refine s_perm (lv2 := [(0, .ref (ad 0)), (1, .int (aX10_bearsNow_4 a31 a32 a33 k4)), (2, .int (nI k4)), (3, .int (1 : Int32)), (4, .int (0 : Int32))]) [2, 3, 4, 1, 0] rfl ?_
        have L15 : ∀ (n15 k15 : Nat), k15 + n15 = a31.toNatClampNeg → Sm p l e (rmL 0) s m args below meth c G A 5 0 0 (Qci below G A args s (rX10_bearsNow a31 a32 a33) (wX10 G ad a0 a1 a2 a3 a4 a5 a6 a7 a8 a9 a10 a11 a12 a13 a14 a15 a16 a17 a18 a19 a20 a21 a22 a23 a24 a25 a26 a27 a28 a29 a30 a31 a32 a33 a34 a35 a36 a37 a38)) 15 [(0, .ref (ad 0)), (1, .int (aX10_bearsNow_4 a31 a32 a33 k4)), (2, .int (nI k4)), (3, .int (aX10_bearsNow_15 a32 a33 k4 k15)), (4, .int (nI k15))] [] (wX10 G ad a0 a1 a2 a3 a4 a5 a6 a7 a8 a9 a10 a11 a12 a13 a14 a15 a16 a17 a18 a19 a20 a21 a22 a23 a24 a25 a26 a27 a28 a29 a30 a31 a32 a33 a34 a35 a36 a37 a38) := by
          intro n15
          induction n15 with
          | zero =>
            intro k15 hk15
            have hK15 : k15 = a31.toNatClampNeg := by omega
            rw [hK15]
            have tk15 : (nI a31.toNatClampNeg).toInt = ((a31.toNatClampNeg : Nat) : Int) := nI_toInt (by omega)
            have eN15 : (a31).toInt = ((a31.toNatClampNeg : Nat) : Int) := e31
            refine s_iload X (pc := 15) (x := nI a31.toNatClampNeg) 4 dX10_bearsNow_15 rfl ?_
            refine s_aload_n X (pc := 17) (x := (ad 0)) 0 dX10_bearsNow_17 rfl ?_
            refine s_get X (pc := 18) (v := .int a31) iX10_bearsNow_X10 0 rfl rfl 31 (by decide) kX10_bearsNow_161 rfl rfl dX10_bearsNow_18 ?_
            refine s_icmp_ge X (pc := 21) (tgt := 66) dX10_bearsNow_21 (by decide) (fun c21 => ?_) (fun c21 => ?_)
            ·
              refine s_iload_n X (pc := 66) (x := (aX10_bearsNow_4 a31 a32 a33 k4)) 1 dX10_bearsNow_66 rfl ?_
              refine s_iload_n X (pc := 67) (x := (aX10_bearsNow_15 a32 a33 k4 a31.toNatClampNeg)) 3 dX10_bearsNow_67 rfl ?_
              refine s_if_eq X (pc := 68) (tgt := 77) dX10_bearsNow_68 (by decide) (fun c68 => ?_) (fun c68 => ?_)
              ·
                refine s_iconst X (pc := 77) (v := 0) dX10_bearsNow_77 (by decide) ?_
                refine s_ior X (pc := 78) dX10_bearsNow_78 ?_
                refine s_istore_n X (pc := 79) (i := 1) (lv2 := [(1, .int ((aX10_bearsNow_4 a31 a32 a33 k4) ||| (0 : Int32))), (0, .ref (ad 0)), (2, .int (nI k4)), (3, .int (aX10_bearsNow_15 a32 a33 k4 a31.toNatClampNeg)), (4, .int (nI a31.toNatClampNeg))]) dX10_bearsNow_79 rfl (by decide) rfl ?_
                refine s_iinc X (pc := 80) (v := nI (k4 + 1)) (lv2 := [(2, .int (nI (k4 + 1))), (1, .int ((aX10_bearsNow_4 a31 a32 a33 k4) ||| (0 : Int32))), (0, .ref (ad 0)), (3, .int (aX10_bearsNow_15 a32 a33 k4 a31.toNatClampNeg)), (4, .int (nI a31.toNatClampNeg))]) 2 dX10_bearsNow_80 rfl (nI_1 _) (by decide) rfl ?_
                refine s_goto X (pc := 83) (tgt := 4) dX10_bearsNow_83 (by decide) ?_
                refine s_perm (lv2 := [(0, .ref (ad 0)), (1, .int ((aX10_bearsNow_4 a31 a32 a33 k4) ||| (0 : Int32))), (2, .int (nI (k4 + 1)))]) [2, 1, 0] rfl ?_
                have hb4 : (aX10_bearsNow_4 a31 a32 a33 (k4 + 1)) = (aX10_bearsNow_4 a31 a32 a33 k4) ||| (0 : Int32) := by rw [aX10_bearsNow_4]; exact (if_pos c68)
                refine s_cast (lv2 := [(0, .ref (ad 0)), (1, .int (aX10_bearsNow_4 a31 a32 a33 (k4 + 1))), (2, .int (nI (k4 + 1)))]) (w2 := wX10 G ad a0 a1 a2 a3 a4 a5 a6 a7 a8 a9 a10 a11 a12 a13 a14 a15 a16 a17 a18 a19 a20 a21 a22 a23 a24 a25 a26 a27 a28 a29 a30 a31 a32 a33 a34 a35 a36 a37 a38) (by first | (rw [hb4]; done) | rfl) (by first | (rw [hb4]; done) | rfl) ?_
                exact ih4 (k4 + 1) (by omega)
              ·
                refine s_iconst X (pc := 71) (v := 1) dX10_bearsNow_71 (by decide) ?_
                refine s_iload_n X (pc := 72) (x := nI k4) 2 dX10_bearsNow_72 rfl ?_
                refine s_ishl X (pc := 73) dX10_bearsNow_73 ?_
                refine s_goto X (pc := 74) (tgt := 78) dX10_bearsNow_74 (by decide) ?_
                refine s_ior X (pc := 78) dX10_bearsNow_78 ?_
                refine s_istore_n X (pc := 79) (i := 1) (lv2 := [(1, .int ((aX10_bearsNow_4 a31 a32 a33 k4) ||| ((1 : Int32) <<< ((nI k4) &&& 31)))), (0, .ref (ad 0)), (2, .int (nI k4)), (3, .int (aX10_bearsNow_15 a32 a33 k4 a31.toNatClampNeg)), (4, .int (nI a31.toNatClampNeg))]) dX10_bearsNow_79 rfl (by decide) rfl ?_
                refine s_iinc X (pc := 80) (v := nI (k4 + 1)) (lv2 := [(2, .int (nI (k4 + 1))), (1, .int ((aX10_bearsNow_4 a31 a32 a33 k4) ||| ((1 : Int32) <<< ((nI k4) &&& 31)))), (0, .ref (ad 0)), (3, .int (aX10_bearsNow_15 a32 a33 k4 a31.toNatClampNeg)), (4, .int (nI a31.toNatClampNeg))]) 2 dX10_bearsNow_80 rfl (nI_1 _) (by decide) rfl ?_
                refine s_goto X (pc := 83) (tgt := 4) dX10_bearsNow_83 (by decide) ?_
                refine s_perm (lv2 := [(0, .ref (ad 0)), (1, .int ((aX10_bearsNow_4 a31 a32 a33 k4) ||| ((1 : Int32) <<< ((nI k4) &&& 31)))), (2, .int (nI (k4 + 1)))]) [2, 1, 0] rfl ?_
                have hb4 : (aX10_bearsNow_4 a31 a32 a33 (k4 + 1)) = (aX10_bearsNow_4 a31 a32 a33 k4) ||| ((1 : Int32) <<< ((nI k4) &&& 31)) := by rw [aX10_bearsNow_4]; exact (if_neg c68)
                refine s_cast (lv2 := [(0, .ref (ad 0)), (1, .int (aX10_bearsNow_4 a31 a32 a33 (k4 + 1))), (2, .int (nI (k4 + 1)))]) (w2 := wX10 G ad a0 a1 a2 a3 a4 a5 a6 a7 a8 a9 a10 a11 a12 a13 a14 a15 a16 a17 a18 a19 a20 a21 a22 a23 a24 a25 a26 a27 a28 a29 a30 a31 a32 a33 a34 a35 a36 a37 a38) (by first | (rw [hb4]; done) | rfl) (by first | (rw [hb4]; done) | rfl) ?_
                exact ih4 (k4 + 1) (by omega)
            ·
              exact absurd ((t_le eN15 tk15).mpr (by omega)) c21
          | succ n15 ih15 =>
            intro k15 hk15
            have hlt15 : k15 < a31.toNatClampNeg := by omega
            have tk15 : (nI k15).toInt = ((k15 : Nat) : Int) := nI_toInt (by omega)
            have eN15 : (a31).toInt = ((a31.toNatClampNeg : Nat) : Int) := e31
            refine s_iload X (pc := 15) (x := nI k15) 4 dX10_bearsNow_15 rfl ?_
            refine s_aload_n X (pc := 17) (x := (ad 0)) 0 dX10_bearsNow_17 rfl ?_
            refine s_get X (pc := 18) (v := .int a31) iX10_bearsNow_X10 0 rfl rfl 31 (by decide) kX10_bearsNow_161 rfl rfl dX10_bearsNow_18 ?_
            refine s_icmp_ge X (pc := 21) (tgt := 66) dX10_bearsNow_21 (by decide) (fun c21 => ?_) (fun c21 => ?_)
            ·
              exact absurd ((t_le eN15 tk15).mp c21) (by omega)
            ·
              refine s_iload_n X (pc := 24) (x := (aX10_bearsNow_15 a32 a33 k4 k15)) 3 dX10_bearsNow_24 rfl ?_
              refine s_if_eq X (pc := 25) (tgt := 58) dX10_bearsNow_25 (by decide) (fun c25 => ?_) (fun c25 => ?_)
              ·
                refine s_iconst X (pc := 58) (v := 0) dX10_bearsNow_58 (by decide) ?_
                refine s_istore_n X (pc := 59) (i := 3) (lv2 := [(3, .int (0 : Int32)), (0, .ref (ad 0)), (1, .int (aX10_bearsNow_4 a31 a32 a33 k4)), (2, .int (nI k4)), (4, .int (nI k15))]) dX10_bearsNow_59 rfl (by decide) rfl ?_
                refine s_iinc X (pc := 60) (v := nI (k15 + 1)) (lv2 := [(4, .int (nI (k15 + 1))), (3, .int (0 : Int32)), (0, .ref (ad 0)), (1, .int (aX10_bearsNow_4 a31 a32 a33 k4)), (2, .int (nI k4))]) 4 dX10_bearsNow_60 rfl (nI_1 _) (by decide) rfl ?_
                refine s_goto X (pc := 63) (tgt := 15) dX10_bearsNow_63 (by decide) ?_
                refine s_perm (lv2 := [(0, .ref (ad 0)), (1, .int (aX10_bearsNow_4 a31 a32 a33 k4)), (2, .int (nI k4)), (3, .int (0 : Int32)), (4, .int (nI (k15 + 1)))]) [2, 3, 4, 1, 0] rfl ?_
                have hb15 : (aX10_bearsNow_15 a32 a33 k4 (k15 + 1)) = (0 : Int32) := by rw [aX10_bearsNow_15]; exact (if_pos c25)
                refine s_cast (lv2 := [(0, .ref (ad 0)), (1, .int (aX10_bearsNow_4 a31 a32 a33 k4)), (2, .int (nI k4)), (3, .int (aX10_bearsNow_15 a32 a33 k4 (k15 + 1))), (4, .int (nI (k15 + 1)))]) (w2 := wX10 G ad a0 a1 a2 a3 a4 a5 a6 a7 a8 a9 a10 a11 a12 a13 a14 a15 a16 a17 a18 a19 a20 a21 a22 a23 a24 a25 a26 a27 a28 a29 a30 a31 a32 a33 a34 a35 a36 a37 a38) (by first | (rw [hb15]; done) | rfl) (by first | (rw [hb15]; done) | rfl) ?_
                exact ih15 (k15 + 1) (by omega)
              ·
                refine s_aload_n X (pc := 28) (x := (ad 0)) 0 dX10_bearsNow_28 rfl ?_
                refine s_get X (pc := 29) (v := .ref (ad 33)) iX10_bearsNow_X10 0 rfl rfl 32 (by decide) kX10_bearsNow_68 rfl rfl dX10_bearsNow_29 ?_
                refine s_iload X (pc := 32) (x := nI k15) 4 dX10_bearsNow_32 rfl ?_
                refine s_iald X (pc := 34) (n := 6) (f := a32) 19 rfl (vp_in_nI (by omega) (by decide)) dX10_bearsNow_34 ?_
                refine s_iload_n X (pc := 35) (x := nI k4) 2 dX10_bearsNow_35 rfl ?_
                refine s_icmp_le X (pc := 36) (tgt := 43) dX10_bearsNow_36 (by decide) (fun c36 => ?_) (fun c36 => ?_)
                ·
                  refine s_iconst X (pc := 43) (v := 0) dX10_bearsNow_43 (by decide) ?_
                  refine s_aload_n X (pc := 44) (x := (ad 0)) 0 dX10_bearsNow_44 rfl ?_
                  refine s_get X (pc := 45) (v := .ref (ad 34)) iX10_bearsNow_X10 0 rfl rfl 33 (by decide) kX10_bearsNow_71 rfl rfl dX10_bearsNow_45 ?_
                  refine s_iload X (pc := 48) (x := nI k15) 4 dX10_bearsNow_48 rfl ?_
                  refine s_zald X (pc := 50) (n := 6) (f := a33) 20 rfl (vp_in_nI (by omega) (by decide)) dX10_bearsNow_50 ?_
                  refine s_icmp_ne X (pc := 51) (tgt := 58) dX10_bearsNow_51 (by decide) (fun c51 => ?_) (fun c51 => ?_)
                  ·
                    refine s_iconst X (pc := 58) (v := 0) dX10_bearsNow_58 (by decide) ?_
                    refine s_istore_n X (pc := 59) (i := 3) (lv2 := [(3, .int (0 : Int32)), (0, .ref (ad 0)), (1, .int (aX10_bearsNow_4 a31 a32 a33 k4)), (2, .int (nI k4)), (4, .int (nI k15))]) dX10_bearsNow_59 rfl (by decide) rfl ?_
                    refine s_iinc X (pc := 60) (v := nI (k15 + 1)) (lv2 := [(4, .int (nI (k15 + 1))), (3, .int (0 : Int32)), (0, .ref (ad 0)), (1, .int (aX10_bearsNow_4 a31 a32 a33 k4)), (2, .int (nI k4))]) 4 dX10_bearsNow_60 rfl (nI_1 _) (by decide) rfl ?_
                    refine s_goto X (pc := 63) (tgt := 15) dX10_bearsNow_63 (by decide) ?_
                    refine s_perm (lv2 := [(0, .ref (ad 0)), (1, .int (aX10_bearsNow_4 a31 a32 a33 k4)), (2, .int (nI k4)), (3, .int (0 : Int32)), (4, .int (nI (k15 + 1)))]) [2, 3, 4, 1, 0] rfl ?_
                    have hb15 : (aX10_bearsNow_15 a32 a33 k4 (k15 + 1)) = (0 : Int32) := by rw [aX10_bearsNow_15]; exact ((if_neg c25).trans ((if_pos c36).trans (if_neg c51)))
                    refine s_cast (lv2 := [(0, .ref (ad 0)), (1, .int (aX10_bearsNow_4 a31 a32 a33 k4)), (2, .int (nI k4)), (3, .int (aX10_bearsNow_15 a32 a33 k4 (k15 + 1))), (4, .int (nI (k15 + 1)))]) (w2 := wX10 G ad a0 a1 a2 a3 a4 a5 a6 a7 a8 a9 a10 a11 a12 a13 a14 a15 a16 a17 a18 a19 a20 a21 a22 a23 a24 a25 a26 a27 a28 a29 a30 a31 a32 a33 a34 a35 a36 a37 a38) (by first | (rw [hb15]; done) | rfl) (by first | (rw [hb15]; done) | rfl) ?_
                    exact ih15 (k15 + 1) (by omega)
                  ·
                    refine s_iconst X (pc := 54) (v := 1) dX10_bearsNow_54 (by decide) ?_
                    refine s_goto X (pc := 55) (tgt := 59) dX10_bearsNow_55 (by decide) ?_
                    refine s_istore_n X (pc := 59) (i := 3) (lv2 := [(3, .int (1 : Int32)), (0, .ref (ad 0)), (1, .int (aX10_bearsNow_4 a31 a32 a33 k4)), (2, .int (nI k4)), (4, .int (nI k15))]) dX10_bearsNow_59 rfl (by decide) rfl ?_
                    refine s_iinc X (pc := 60) (v := nI (k15 + 1)) (lv2 := [(4, .int (nI (k15 + 1))), (3, .int (1 : Int32)), (0, .ref (ad 0)), (1, .int (aX10_bearsNow_4 a31 a32 a33 k4)), (2, .int (nI k4))]) 4 dX10_bearsNow_60 rfl (nI_1 _) (by decide) rfl ?_
                    refine s_goto X (pc := 63) (tgt := 15) dX10_bearsNow_63 (by decide) ?_
                    refine s_perm (lv2 := [(0, .ref (ad 0)), (1, .int (aX10_bearsNow_4 a31 a32 a33 k4)), (2, .int (nI k4)), (3, .int (1 : Int32)), (4, .int (nI (k15 + 1)))]) [2, 3, 4, 1, 0] rfl ?_
                    have hb15 : (aX10_bearsNow_15 a32 a33 k4 (k15 + 1)) = (1 : Int32) := by rw [aX10_bearsNow_15]; exact ((if_neg c25).trans ((if_pos c36).trans (if_pos c51)))
                    refine s_cast (lv2 := [(0, .ref (ad 0)), (1, .int (aX10_bearsNow_4 a31 a32 a33 k4)), (2, .int (nI k4)), (3, .int (aX10_bearsNow_15 a32 a33 k4 (k15 + 1))), (4, .int (nI (k15 + 1)))]) (w2 := wX10 G ad a0 a1 a2 a3 a4 a5 a6 a7 a8 a9 a10 a11 a12 a13 a14 a15 a16 a17 a18 a19 a20 a21 a22 a23 a24 a25 a26 a27 a28 a29 a30 a31 a32 a33 a34 a35 a36 a37 a38) (by first | (rw [hb15]; done) | rfl) (by first | (rw [hb15]; done) | rfl) ?_
                    exact ih15 (k15 + 1) (by omega)
                ·
                  refine s_iconst X (pc := 39) (v := 1) dX10_bearsNow_39 (by decide) ?_
                  refine s_goto X (pc := 40) (tgt := 44) dX10_bearsNow_40 (by decide) ?_
                  refine s_aload_n X (pc := 44) (x := (ad 0)) 0 dX10_bearsNow_44 rfl ?_
                  refine s_get X (pc := 45) (v := .ref (ad 34)) iX10_bearsNow_X10 0 rfl rfl 33 (by decide) kX10_bearsNow_71 rfl rfl dX10_bearsNow_45 ?_
                  refine s_iload X (pc := 48) (x := nI k15) 4 dX10_bearsNow_48 rfl ?_
                  refine s_zald X (pc := 50) (n := 6) (f := a33) 20 rfl (vp_in_nI (by omega) (by decide)) dX10_bearsNow_50 ?_
                  refine s_icmp_ne X (pc := 51) (tgt := 58) dX10_bearsNow_51 (by decide) (fun c51 => ?_) (fun c51 => ?_)
                  ·
                    refine s_iconst X (pc := 58) (v := 0) dX10_bearsNow_58 (by decide) ?_
                    refine s_istore_n X (pc := 59) (i := 3) (lv2 := [(3, .int (0 : Int32)), (0, .ref (ad 0)), (1, .int (aX10_bearsNow_4 a31 a32 a33 k4)), (2, .int (nI k4)), (4, .int (nI k15))]) dX10_bearsNow_59 rfl (by decide) rfl ?_
                    refine s_iinc X (pc := 60) (v := nI (k15 + 1)) (lv2 := [(4, .int (nI (k15 + 1))), (3, .int (0 : Int32)), (0, .ref (ad 0)), (1, .int (aX10_bearsNow_4 a31 a32 a33 k4)), (2, .int (nI k4))]) 4 dX10_bearsNow_60 rfl (nI_1 _) (by decide) rfl ?_
                    refine s_goto X (pc := 63) (tgt := 15) dX10_bearsNow_63 (by decide) ?_
                    refine s_perm (lv2 := [(0, .ref (ad 0)), (1, .int (aX10_bearsNow_4 a31 a32 a33 k4)), (2, .int (nI k4)), (3, .int (0 : Int32)), (4, .int (nI (k15 + 1)))]) [2, 3, 4, 1, 0] rfl ?_
                    have hb15 : (aX10_bearsNow_15 a32 a33 k4 (k15 + 1)) = (0 : Int32) := by rw [aX10_bearsNow_15]; exact ((if_neg c25).trans ((if_neg c36).trans (if_neg c51)))
                    refine s_cast (lv2 := [(0, .ref (ad 0)), (1, .int (aX10_bearsNow_4 a31 a32 a33 k4)), (2, .int (nI k4)), (3, .int (aX10_bearsNow_15 a32 a33 k4 (k15 + 1))), (4, .int (nI (k15 + 1)))]) (w2 := wX10 G ad a0 a1 a2 a3 a4 a5 a6 a7 a8 a9 a10 a11 a12 a13 a14 a15 a16 a17 a18 a19 a20 a21 a22 a23 a24 a25 a26 a27 a28 a29 a30 a31 a32 a33 a34 a35 a36 a37 a38) (by first | (rw [hb15]; done) | rfl) (by first | (rw [hb15]; done) | rfl) ?_
                    exact ih15 (k15 + 1) (by omega)
                  ·
                    refine s_iconst X (pc := 54) (v := 1) dX10_bearsNow_54 (by decide) ?_
                    refine s_goto X (pc := 55) (tgt := 59) dX10_bearsNow_55 (by decide) ?_
                    refine s_istore_n X (pc := 59) (i := 3) (lv2 := [(3, .int (1 : Int32)), (0, .ref (ad 0)), (1, .int (aX10_bearsNow_4 a31 a32 a33 k4)), (2, .int (nI k4)), (4, .int (nI k15))]) dX10_bearsNow_59 rfl (by decide) rfl ?_
                    refine s_iinc X (pc := 60) (v := nI (k15 + 1)) (lv2 := [(4, .int (nI (k15 + 1))), (3, .int (1 : Int32)), (0, .ref (ad 0)), (1, .int (aX10_bearsNow_4 a31 a32 a33 k4)), (2, .int (nI k4))]) 4 dX10_bearsNow_60 rfl (nI_1 _) (by decide) rfl ?_
                    refine s_goto X (pc := 63) (tgt := 15) dX10_bearsNow_63 (by decide) ?_
                    refine s_perm (lv2 := [(0, .ref (ad 0)), (1, .int (aX10_bearsNow_4 a31 a32 a33 k4)), (2, .int (nI k4)), (3, .int (1 : Int32)), (4, .int (nI (k15 + 1)))]) [2, 3, 4, 1, 0] rfl ?_
                    have hb15 : (aX10_bearsNow_15 a32 a33 k4 (k15 + 1)) = (1 : Int32) := by rw [aX10_bearsNow_15]; exact ((if_neg c25).trans ((if_neg c36).trans (if_pos c51)))
                    refine s_cast (lv2 := [(0, .ref (ad 0)), (1, .int (aX10_bearsNow_4 a31 a32 a33 k4)), (2, .int (nI k4)), (3, .int (aX10_bearsNow_15 a32 a33 k4 (k15 + 1))), (4, .int (nI (k15 + 1)))]) (w2 := wX10 G ad a0 a1 a2 a3 a4 a5 a6 a7 a8 a9 a10 a11 a12 a13 a14 a15 a16 a17 a18 a19 a20 a21 a22 a23 a24 a25 a26 a27 a28 a29 a30 a31 a32 a33 a34 a35 a36 a37 a38) (by first | (rw [hb15]; done) | rfl) (by first | (rw [hb15]; done) | rfl) ?_
                    exact ih15 (k15 + 1) (by omega)
        exact L15 a31.toNatClampNeg 0 (Nat.zero_add _)
  exact L4 11 0 (Nat.zero_add _)

def rX10_bears (a31 : Int32) (a32 a33 : Nat → Int32) : Int32 := rX10_bearsNow a31 a32 a33
set_option maxRecDepth 100000 in
set_option maxHeartbeats 4000000 in
theorem c_X10_bears (l : Launch) (G : GT) (ad : Nat → Nat) (a0 : Int32) (a1 : Nat → Int32) (a2 : Int32) (a3 : Nat → Int32) (a4 : Int32) (a5 a6 a7 a8 a9 : Nat → Int32) (a10 : Int32) (a11 : Nat → Int32) (a12 a13 a14 a15 a16 a17 : Int32) (a18 : Nat → Int32) (a19 : Int32) (a20 : Nat → Int32) (a21 : Int32) (a22 a23 a24 a25 : Nat → Int32) (a26 : Int32) (a27 a28 a29 a30 : Nat → Int32) (a31 : Int32) (a32 a33 : Nat → Int32) (a34 : Int32) (a35 a36 a37 a38 : Nat → Int32) (h0 : 0 ≤ a31) (h6 : a31 ≤ 6) : Ci l G yX10_bears wsX10_bears (rmL 1) [.ref (ad 0)] (wX10 G ad a0 a1 a2 a3 a4 a5 a6 a7 a8 a9 a10 a11 a12 a13 a14 a15 a16 a17 a18 a19 a20 a21 a22 a23 a24 a25 a26 a27 a28 a29 a30 a31 a32 a33 a34 a35 a36 a37 a38) (rX10_bears a31 a32 a33) (wX10 G ad a0 a1 a2 a3 a4 a5 a6 a7 a8 a9 a10 a11 a12 a13 a14 a15 a16 a17 a18 a19 a20 a21 a22 a23 a24 a25 a26 a27 a28 a29 a30 a31 a32 a33 a34 a35 a36 a37 a38) := by
  refine ci_start .int (by decide) rfl rfl (Nat.le_of_ble_eq_true rfl) ?_
  intro p e s m args below meth c A X
  refine s_perm (lv2 := [(0, .ref (ad 0))]) [0] rfl ?_
  refine s_aload_n X (pc := 0) (x := (ad 0)) 0 dX10_bears_0 rfl ?_
  refine s_callVi0 X (pc := 1) (r := rX10_bearsNow a31 a32 a33) (w := wX10 G ad a0 a1 a2 a3 a4 a5 a6 a7 a8 a9 a10 a11 a12 a13 a14 a15 a16 a17 a18 a19 a20 a21 a22 a23 a24 a25 a26 a27 a28 a29 a30 a31 a32 a33 a34 a35 a36 a37 a38) (n := 0) (st := []) (As := []) (w2 := wX10 G ad a0 a1 a2 a3 a4 a5 a6 a7 a8 a9 a10 a11 a12 a13 a14 a15 a16 a17 a18 a19 a20 a21 a22 a23 a24 a25 a26 a27 a28 a29 a30 a31 a32 a33 a34 a35 a36 a37 a38) 0 (c_X10_bearsNow l G ad a0 a1 a2 a3 a4 a5 a6 a7 a8 a9 a10 a11 a12 a13 a14 a15 a16 a17 a18 a19 a20 a21 a22 a23 a24 a25 a26 a27 a28 a29 a30 a31 a32 a33 a34 a35 a36 a37 a38 (by first | with_reducible assumption | grind) (by first | with_reducible assumption | grind)) gX10_bears_X10_bearsNow rfl (by decide +kernel) ⟨Nat.le_of_ble_eq_true rfl, Nat.le_of_ble_eq_true rfl⟩ 0 rfl rfl rfl rfl (Nat.le_of_ble_eq_true rfl) (Nat.zero_le _) (Nat.zero_le _) dX10_bears_1 ?_
  exact s_iret X (pc := 4) (v := rX10_bearsNow a31 a32 a33) dX10_bears_4 rfl rfl

def aX10_listen_50 (a31 : Int32) (a32 a33 : Nat → Int32) : Nat → Int32
  | 0 => (0 : Int32)
  | k50 + 1 => (aX10_listen_50 a31 a32 a33 k50) + (((rX10_bearsNow a31 a32 a33) >>> ((nI k50) &&& 31)) &&& (1 : Int32))
def aX10_listen_37 (a31 : Int32) (a32 a33 : Nat → Int32) (v9 : Int32) : Nat → Int32 × Int32
  | 0 => ((-1 : Int32), v9)
  | k37 + 1 => if (aX10_listen_50 a31 a32 a33 k37) ≤ (v9 - (aX10_listen_50 a31 a32 a33 k37)) then (if ((aX10_listen_37 a31 a32 a33 v9 k37).2) ≤ (v9 - (aX10_listen_50 a31 a32 a33 k37)) then ((aX10_listen_37 a31 a32 a33 v9 k37).1, (aX10_listen_37 a31 a32 a33 v9 k37).2) else (nI k37, v9 - (aX10_listen_50 a31 a32 a33 k37))) else (if ((aX10_listen_37 a31 a32 a33 v9 k37).2) ≤ (aX10_listen_50 a31 a32 a33 k37) then ((aX10_listen_37 a31 a32 a33 v9 k37).1, (aX10_listen_37 a31 a32 a33 v9 k37).2) else (nI k37, (aX10_listen_50 a31 a32 a33 k37)))
def aX10_listen_9 (a31 : Int32) (a32 a33 : Nat → Int32) : Nat → Int32
  | 0 => (0 : Int32)
  | k9 + 1 => (aX10_listen_9 a31 a32 a33 k9) + (((rX10_bearsNow a31 a32 a33) >>> ((nI k9) &&& 31)) &&& (1 : Int32))
def rX10_listen (a31 : Int32) (a32 a33 : Nat → Int32) : Int32 := (aX10_listen_37 a31 a32 a33 (aX10_listen_9 a31 a32 a33 11) 11).1
set_option maxRecDepth 100000 in
set_option maxHeartbeats 4000000 in
theorem c_X10_listen (l : Launch) (G : GT) (ad : Nat → Nat) (a0 : Int32) (a1 : Nat → Int32) (a2 : Int32) (a3 : Nat → Int32) (a4 : Int32) (a5 a6 a7 a8 a9 : Nat → Int32) (a10 : Int32) (a11 : Nat → Int32) (a12 a13 a14 a15 a16 a17 : Int32) (a18 : Nat → Int32) (a19 : Int32) (a20 : Nat → Int32) (a21 : Int32) (a22 a23 a24 a25 : Nat → Int32) (a26 : Int32) (a27 a28 a29 a30 : Nat → Int32) (a31 : Int32) (a32 a33 : Nat → Int32) (a34 : Int32) (a35 a36 a37 a38 : Nat → Int32) (h0 : 0 ≤ a31) (h6 : a31 ≤ 6) : Ci l G yX10_listen wsX10_listen (rmL 1) [.ref (ad 0)] (wX10 G ad a0 a1 a2 a3 a4 a5 a6 a7 a8 a9 a10 a11 a12 a13 a14 a15 a16 a17 a18 a19 a20 a21 a22 a23 a24 a25 a26 a27 a28 a29 a30 a31 a32 a33 a34 a35 a36 a37 a38) (rX10_listen a31 a32 a33) (wX10 G ad a0 a1 a2 a3 a4 a5 a6 a7 a8 a9 a10 a11 a12 a13 a14 a15 a16 a17 a18 a19 a20 a21 a22 a23 a24 a25 a26 a27 a28 a29 a30 a31 a32 a33 a34 a35 a36 a37 a38) := by
  refine ci_start .int (by decide) rfl rfl (Nat.le_of_ble_eq_true rfl) ?_
  intro p e s m args below meth c A X
  refine s_perm (lv2 := [(0, .ref (ad 0))]) [0] rfl ?_
  refine s_aload_n X (pc := 0) (x := (ad 0)) 0 dX10_listen_0 rfl ?_
  refine s_callVi0 X (pc := 1) (r := rX10_bearsNow a31 a32 a33) (w := wX10 G ad a0 a1 a2 a3 a4 a5 a6 a7 a8 a9 a10 a11 a12 a13 a14 a15 a16 a17 a18 a19 a20 a21 a22 a23 a24 a25 a26 a27 a28 a29 a30 a31 a32 a33 a34 a35 a36 a37 a38) (n := 0) (st := []) (As := []) (w2 := wX10 G ad a0 a1 a2 a3 a4 a5 a6 a7 a8 a9 a10 a11 a12 a13 a14 a15 a16 a17 a18 a19 a20 a21 a22 a23 a24 a25 a26 a27 a28 a29 a30 a31 a32 a33 a34 a35 a36 a37 a38) 0 (c_X10_bearsNow l G ad a0 a1 a2 a3 a4 a5 a6 a7 a8 a9 a10 a11 a12 a13 a14 a15 a16 a17 a18 a19 a20 a21 a22 a23 a24 a25 a26 a27 a28 a29 a30 a31 a32 a33 a34 a35 a36 a37 a38 h0 h6) gX10_listen_X10_bearsNow rfl (by decide +kernel) ⟨Nat.le_of_ble_eq_true rfl, Nat.le_of_ble_eq_true rfl⟩ 0 rfl rfl rfl rfl (Nat.le_of_ble_eq_true rfl) (Nat.zero_le _) (Nat.zero_le _) dX10_listen_1 ?_
  refine s_istore_n X (pc := 4) (i := 1) (lv2 := [(1, .int (rX10_bearsNow a31 a32 a33)), (0, .ref (ad 0))]) dX10_listen_4 rfl (by decide) rfl ?_
  refine s_iconst X (pc := 5) (v := 0) dX10_listen_5 (by decide) ?_
  refine s_istore_n X (pc := 6) (i := 2) (lv2 := [(2, .int (0 : Int32)), (1, .int (rX10_bearsNow a31 a32 a33)), (0, .ref (ad 0))]) dX10_listen_6 rfl (by decide) rfl ?_
  refine s_iconst X (pc := 7) (v := 0) dX10_listen_7 (by decide) ?_
  refine s_istore_n X (pc := 8) (i := 3) (lv2 := [(3, .int (0 : Int32)), (2, .int (0 : Int32)), (1, .int (rX10_bearsNow a31 a32 a33)), (0, .ref (ad 0))]) dX10_listen_8 rfl (by decide) rfl ?_
  refine s_perm (lv2 := [(0, .ref (ad 0)), (1, .int (rX10_bearsNow a31 a32 a33)), (2, .int (0 : Int32)), (3, .int (0 : Int32))]) [3, 2, 1, 0] rfl ?_
  have L9 : ∀ (n9 k9 : Nat), k9 + n9 = 11 → Sm p l e (rmL 1) s m args below meth c G A 8 0 0 (Qci below G A args s (rX10_listen a31 a32 a33) (wX10 G ad a0 a1 a2 a3 a4 a5 a6 a7 a8 a9 a10 a11 a12 a13 a14 a15 a16 a17 a18 a19 a20 a21 a22 a23 a24 a25 a26 a27 a28 a29 a30 a31 a32 a33 a34 a35 a36 a37 a38)) 9 [(0, .ref (ad 0)), (1, .int (rX10_bearsNow a31 a32 a33)), (2, .int (aX10_listen_9 a31 a32 a33 k9)), (3, .int (nI k9))] [] (wX10 G ad a0 a1 a2 a3 a4 a5 a6 a7 a8 a9 a10 a11 a12 a13 a14 a15 a16 a17 a18 a19 a20 a21 a22 a23 a24 a25 a26 a27 a28 a29 a30 a31 a32 a33 a34 a35 a36 a37 a38) := by
    intro n9
    induction n9 with
    | zero =>
      intro k9 hk9
      have hK9 : k9 = 11 := by omega
      rw [hK9]
      have tk9 : (nI 11).toInt = ((11 : Nat) : Int) := nI_toInt (by omega)
      have eN9 : ((11 : Int32)).toInt = ((11 : Nat) : Int) := rfl
      refine s_iload_n X (pc := 9) (x := nI 11) 3 dX10_listen_9 rfl ?_
      refine s_bipush X (pc := 10) (v := 11) dX10_listen_10 (by decide) ?_
      refine s_icmp_ge X (pc := 12) (tgt := 29) dX10_listen_12 (by decide) (fun c12 => ?_) (fun c12 => ?_)
      ·
        refine s_iconst X (pc := 29) (v := -1) dX10_listen_29 (by decide) ?_
        refine s_istore_n X (pc := 30) (i := 3) (lv2 := [(3, .int (-1 : Int32)), (0, .ref (ad 0)), (1, .int (rX10_bearsNow a31 a32 a33)), (2, .int (aX10_listen_9 a31 a32 a33 11))]) dX10_listen_30 rfl (by decide) rfl ?_
        refine s_iload_n X (pc := 31) (x := (aX10_listen_9 a31 a32 a33 11)) 3 dX10_listen_31 rfl ?_
        refine s_istore X (pc := 32) (i := 4) (lv2 := [(4, .int (aX10_listen_9 a31 a32 a33 11)), (3, .int (-1 : Int32)), (0, .ref (ad 0)), (1, .int (rX10_bearsNow a31 a32 a33)), (2, .int (aX10_listen_9 a31 a32 a33 11))]) dX10_listen_32 (by decide) rfl ?_
        refine s_iconst X (pc := 34) (v := 0) dX10_listen_34 (by decide) ?_
        refine s_istore X (pc := 35) (i := 5) (lv2 := [(5, .int (0 : Int32)), (4, .int (aX10_listen_9 a31 a32 a33 11)), (3, .int (-1 : Int32)), (0, .ref (ad 0)), (1, .int (rX10_bearsNow a31 a32 a33)), (2, .int (aX10_listen_9 a31 a32 a33 11))]) dX10_listen_35 (by decide) rfl ?_
        refine s_perm (lv2 := [(0, .ref (ad 0)), (1, .int (rX10_bearsNow a31 a32 a33)), (2, .int (aX10_listen_9 a31 a32 a33 11)), (3, .int (-1 : Int32)), (4, .int (aX10_listen_9 a31 a32 a33 11)), (5, .int (0 : Int32))]) [3, 4, 5, 2, 1, 0] rfl ?_
        have L37 : ∀ (n37 k37 : Nat), k37 + n37 = 11 → Sm p l e (rmL 1) s m args below meth c G A 8 0 0 (Qci below G A args s (rX10_listen a31 a32 a33) (wX10 G ad a0 a1 a2 a3 a4 a5 a6 a7 a8 a9 a10 a11 a12 a13 a14 a15 a16 a17 a18 a19 a20 a21 a22 a23 a24 a25 a26 a27 a28 a29 a30 a31 a32 a33 a34 a35 a36 a37 a38)) 37 [(0, .ref (ad 0)), (1, .int (rX10_bearsNow a31 a32 a33)), (2, .int (aX10_listen_9 a31 a32 a33 11)), (3, .int ((aX10_listen_37 a31 a32 a33 (aX10_listen_9 a31 a32 a33 11) k37).1)), (4, .int ((aX10_listen_37 a31 a32 a33 (aX10_listen_9 a31 a32 a33 11) k37).2)), (5, .int (nI k37))] [] (wX10 G ad a0 a1 a2 a3 a4 a5 a6 a7 a8 a9 a10 a11 a12 a13 a14 a15 a16 a17 a18 a19 a20 a21 a22 a23 a24 a25 a26 a27 a28 a29 a30 a31 a32 a33 a34 a35 a36 a37 a38) := by
          intro n37
          induction n37 with
          | zero =>
            intro k37 hk37
            have hK37 : k37 = 11 := by omega
            rw [hK37]
            have tk37 : (nI 11).toInt = ((11 : Nat) : Int) := nI_toInt (by omega)
            have eN37 : ((11 : Int32)).toInt = ((11 : Nat) : Int) := rfl
            refine s_iload X (pc := 37) (x := nI 11) 5 dX10_listen_37 rfl ?_
            refine s_bipush X (pc := 39) (v := 11) dX10_listen_39 (by decide) ?_
            refine s_icmp_ge X (pc := 41) (tgt := 130) dX10_listen_41 (by decide) (fun c41 => ?_) (fun c41 => ?_)
            ·
              refine s_iload_n X (pc := 130) (x := (aX10_listen_37 a31 a32 a33 (aX10_listen_9 a31 a32 a33 11) 11).1) 3 dX10_listen_130 rfl ?_
              exact s_iret X (pc := 131) (v := (aX10_listen_37 a31 a32 a33 (aX10_listen_9 a31 a32 a33 11) 11).1) dX10_listen_131 rfl rfl
            ·
              exact absurd ((t_le eN37 tk37).mpr (by omega)) c41
          | succ n37 ih37 =>
            intro k37 hk37
            have hlt37 : k37 < 11 := by omega
            have tk37 : (nI k37).toInt = ((k37 : Nat) : Int) := nI_toInt (by omega)
            have eN37 : ((11 : Int32)).toInt = ((11 : Nat) : Int) := rfl
            refine s_iload X (pc := 37) (x := nI k37) 5 dX10_listen_37 rfl ?_
            refine s_bipush X (pc := 39) (v := 11) dX10_listen_39 (by decide) ?_
            refine s_icmp_ge X (pc := 41) (tgt := 130) dX10_listen_41 (by decide) (fun c41 => ?_) (fun c41 => ?_)
            ·
              exact absurd ((t_le eN37 tk37).mp c41) (by omega)
            ·
              refine s_iconst X (pc := 44) (v := 0) dX10_listen_44 (by decide) ?_
              refine s_istore X (pc := 45) (i := 6) (lv2 := [(6, .int (0 : Int32)), (0, .ref (ad 0)), (1, .int (rX10_bearsNow a31 a32 a33)), (2, .int (aX10_listen_9 a31 a32 a33 11)), (3, .int ((aX10_listen_37 a31 a32 a33 (aX10_listen_9 a31 a32 a33 11) k37).1)), (4, .int ((aX10_listen_37 a31 a32 a33 (aX10_listen_9 a31 a32 a33 11) k37).2)), (5, .int (nI k37))]) dX10_listen_45 (by decide) rfl ?_
              refine s_iconst X (pc := 47) (v := 0) dX10_listen_47 (by decide) ?_
              refine s_istore X (pc := 48) (i := 7) (lv2 := [(7, .int (0 : Int32)), (6, .int (0 : Int32)), (0, .ref (ad 0)), (1, .int (rX10_bearsNow a31 a32 a33)), (2, .int (aX10_listen_9 a31 a32 a33 11)), (3, .int ((aX10_listen_37 a31 a32 a33 (aX10_listen_9 a31 a32 a33 11) k37).1)), (4, .int ((aX10_listen_37 a31 a32 a33 (aX10_listen_9 a31 a32 a33 11) k37).2)), (5, .int (nI k37))]) dX10_listen_48 (by decide) rfl ?_
              refine s_perm (lv2 := [(0, .ref (ad 0)), (1, .int (rX10_bearsNow a31 a32 a33)), (2, .int (aX10_listen_9 a31 a32 a33 11)), (3, .int ((aX10_listen_37 a31 a32 a33 (aX10_listen_9 a31 a32 a33 11) k37).1)), (4, .int ((aX10_listen_37 a31 a32 a33 (aX10_listen_9 a31 a32 a33 11) k37).2)), (5, .int (nI k37)), (6, .int (0 : Int32)), (7, .int (0 : Int32))]) [2, 3, 4, 5, 6, 7, 1, 0] rfl ?_
              have L50 : ∀ (n50 k50 : Nat), k50 + n50 = k37 → Sm p l e (rmL 1) s m args below meth c G A 8 0 0 (Qci below G A args s (rX10_listen a31 a32 a33) (wX10 G ad a0 a1 a2 a3 a4 a5 a6 a7 a8 a9 a10 a11 a12 a13 a14 a15 a16 a17 a18 a19 a20 a21 a22 a23 a24 a25 a26 a27 a28 a29 a30 a31 a32 a33 a34 a35 a36 a37 a38)) 50 [(0, .ref (ad 0)), (1, .int (rX10_bearsNow a31 a32 a33)), (2, .int (aX10_listen_9 a31 a32 a33 11)), (3, .int ((aX10_listen_37 a31 a32 a33 (aX10_listen_9 a31 a32 a33 11) k37).1)), (4, .int ((aX10_listen_37 a31 a32 a33 (aX10_listen_9 a31 a32 a33 11) k37).2)), (5, .int (nI k37)), (6, .int (aX10_listen_50 a31 a32 a33 k50)), (7, .int (nI k50))] [] (wX10 G ad a0 a1 a2 a3 a4 a5 a6 a7 a8 a9 a10 a11 a12 a13 a14 a15 a16 a17 a18 a19 a20 a21 a22 a23 a24 a25 a26 a27 a28 a29 a30 a31 a32 a33 a34 a35 a36 a37 a38) := by
                intro n50
                induction n50 with
                | zero =>
                  intro k50 hk50
                  have hK50 : k50 = k37 := by omega
                  rw [hK50]
                  have tk50 : (nI k37).toInt = ((k37 : Nat) : Int) := nI_toInt (by omega)
                  have eN50 : (nI k37).toInt = ((k37 : Nat) : Int) := tk37
                  refine s_iload X (pc := 50) (x := nI k37) 7 dX10_listen_50 rfl ?_
                  refine s_iload X (pc := 52) (x := nI k37) 5 dX10_listen_52 rfl ?_
                  refine s_icmp_ge X (pc := 54) (tgt := 74) dX10_listen_54 (by decide) (fun c54 => ?_) (fun c54 => ?_)
                  ·
                    refine s_iload X (pc := 74) (x := (aX10_listen_50 a31 a32 a33 k37)) 6 dX10_listen_74 rfl ?_
                    refine s_iload_n X (pc := 76) (x := (aX10_listen_9 a31 a32 a33 11)) 2 dX10_listen_76 rfl ?_
                    refine s_iload X (pc := 77) (x := (aX10_listen_50 a31 a32 a33 k37)) 6 dX10_listen_77 rfl ?_
                    refine s_isub X (pc := 79) dX10_listen_79 ?_
                    refine s_icmp_le X (pc := 80) (tgt := 88) dX10_listen_80 (by decide) (fun c80 => ?_) (fun c80 => ?_)
                    ·
                      refine s_iload_n X (pc := 88) (x := (aX10_listen_9 a31 a32 a33 11)) 2 dX10_listen_88 rfl ?_
                      refine s_iload X (pc := 89) (x := (aX10_listen_50 a31 a32 a33 k37)) 6 dX10_listen_89 rfl ?_
                      refine s_isub X (pc := 91) dX10_listen_91 ?_
                      refine s_istore X (pc := 92) (i := 7) (lv2 := [(7, .int ((aX10_listen_9 a31 a32 a33 11) - (aX10_listen_50 a31 a32 a33 k37))), (0, .ref (ad 0)), (1, .int (rX10_bearsNow a31 a32 a33)), (2, .int (aX10_listen_9 a31 a32 a33 11)), (3, .int ((aX10_listen_37 a31 a32 a33 (aX10_listen_9 a31 a32 a33 11) k37).1)), (4, .int ((aX10_listen_37 a31 a32 a33 (aX10_listen_9 a31 a32 a33 11) k37).2)), (5, .int (nI k37)), (6, .int (aX10_listen_50 a31 a32 a33 k37))]) dX10_listen_92 (by decide) rfl ?_
                      refine s_iload X (pc := 94) (x := (aX10_listen_9 a31 a32 a33 11) - (aX10_listen_50 a31 a32 a33 k37)) 0 dX10_listen_94 rfl ?_
                      refine s_iload X (pc := 96) (x := (aX10_listen_37 a31 a32 a33 (aX10_listen_9 a31 a32 a33 11) k37).2) 5 dX10_listen_96 rfl ?_
                      refine s_icmp_ge X (pc := 98) (tgt := 106) dX10_listen_98 (by decide) (fun c98 => ?_) (fun c98 => ?_)
                      ·
                        refine s_iload_n X (pc := 106) (x := (aX10_listen_37 a31 a32 a33 (aX10_listen_9 a31 a32 a33 11) k37).1) 4 dX10_listen_106 rfl ?_
                        refine s_istore_n X (pc := 107) (i := 3) (lv2 := [(3, .int ((aX10_listen_37 a31 a32 a33 (aX10_listen_9 a31 a32 a33 11) k37).1)), (7, .int ((aX10_listen_9 a31 a32 a33 11) - (aX10_listen_50 a31 a32 a33 k37))), (0, .ref (ad 0)), (1, .int (rX10_bearsNow a31 a32 a33)), (2, .int (aX10_listen_9 a31 a32 a33 11)), (4, .int ((aX10_listen_37 a31 a32 a33 (aX10_listen_9 a31 a32 a33 11) k37).2)), (5, .int (nI k37)), (6, .int (aX10_listen_50 a31 a32 a33 k37))]) dX10_listen_107 rfl (by decide) rfl ?_
                        refine s_iload X (pc := 108) (x := (aX10_listen_9 a31 a32 a33 11) - (aX10_listen_50 a31 a32 a33 k37)) 1 dX10_listen_108 rfl ?_
                        refine s_iload X (pc := 110) (x := (aX10_listen_37 a31 a32 a33 (aX10_listen_9 a31 a32 a33 11) k37).2) 5 dX10_listen_110 rfl ?_
                        refine s_icmp_ge X (pc := 112) (tgt := 120) dX10_listen_112 (by decide) (fun c112 => ?_) (fun c112 => ?_)
                        ·
                          refine s_iload X (pc := 120) (x := (aX10_listen_37 a31 a32 a33 (aX10_listen_9 a31 a32 a33 11) k37).2) 5 dX10_listen_120 rfl ?_
                          refine s_istore X (pc := 122) (i := 4) (lv2 := [(4, .int ((aX10_listen_37 a31 a32 a33 (aX10_listen_9 a31 a32 a33 11) k37).2)), (3, .int ((aX10_listen_37 a31 a32 a33 (aX10_listen_9 a31 a32 a33 11) k37).1)), (7, .int ((aX10_listen_9 a31 a32 a33 11) - (aX10_listen_50 a31 a32 a33 k37))), (0, .ref (ad 0)), (1, .int (rX10_bearsNow a31 a32 a33)), (2, .int (aX10_listen_9 a31 a32 a33 11)), (5, .int (nI k37)), (6, .int (aX10_listen_50 a31 a32 a33 k37))]) dX10_listen_122 (by decide) rfl ?_
                          refine s_iinc X (pc := 124) (v := nI (k37 + 1)) (lv2 := [(5, .int (nI (k37 + 1))), (4, .int ((aX10_listen_37 a31 a32 a33 (aX10_listen_9 a31 a32 a33 11) k37).2)), (3, .int ((aX10_listen_37 a31 a32 a33 (aX10_listen_9 a31 a32 a33 11) k37).1)), (7, .int ((aX10_listen_9 a31 a32 a33 11) - (aX10_listen_50 a31 a32 a33 k37))), (0, .ref (ad 0)), (1, .int (rX10_bearsNow a31 a32 a33)), (2, .int (aX10_listen_9 a31 a32 a33 11)), (6, .int (aX10_listen_50 a31 a32 a33 k37))]) 6 dX10_listen_124 rfl (nI_1 _) (by decide) rfl ?_
                          refine s_goto X (pc := 127) (tgt := 37) dX10_listen_127 (by decide) ?_
                          refine s_perm (lv2 := [(0, .ref (ad 0)), (1, .int (rX10_bearsNow a31 a32 a33)), (2, .int (aX10_listen_9 a31 a32 a33 11)), (3, .int ((aX10_listen_37 a31 a32 a33 (aX10_listen_9 a31 a32 a33 11) k37).1)), (4, .int ((aX10_listen_37 a31 a32 a33 (aX10_listen_9 a31 a32 a33 11) k37).2)), (5, .int (nI (k37 + 1)))]) [4, 5, 6, 2, 1, 0] rfl ?_
                          have hb37 : (aX10_listen_37 a31 a32 a33 (aX10_listen_9 a31 a32 a33 11) (k37 + 1)) = ((aX10_listen_37 a31 a32 a33 (aX10_listen_9 a31 a32 a33 11) k37).1, (aX10_listen_37 a31 a32 a33 (aX10_listen_9 a31 a32 a33 11) k37).2) := by rw [aX10_listen_37]; exact ((if_pos c80).trans (if_pos c98))
                          refine s_cast (lv2 := [(0, .ref (ad 0)), (1, .int (rX10_bearsNow a31 a32 a33)), (2, .int (aX10_listen_9 a31 a32 a33 11)), (3, .int ((aX10_listen_37 a31 a32 a33 (aX10_listen_9 a31 a32 a33 11) (k37 + 1)).1)), (4, .int ((aX10_listen_37 a31 a32 a33 (aX10_listen_9 a31 a32 a33 11) (k37 + 1)).2)), (5, .int (nI (k37 + 1)))]) (w2 := wX10 G ad a0 a1 a2 a3 a4 a5 a6 a7 a8 a9 a10 a11 a12 a13 a14 a15 a16 a17 a18 a19 a20 a21 a22 a23 a24 a25 a26 a27 a28 a29 a30 a31 a32 a33 a34 a35 a36 a37 a38) (by first | (rw [hb37]; done) | rfl) (by first | (rw [hb37]; done) | rfl) ?_
                          exact ih37 (k37 + 1) (by omega)
                        ·
                          exact absurd c98 c112
                      ·
                        refine s_iload X (pc := 101) (x := nI k37) 6 dX10_listen_101 rfl ?_
                        refine s_goto X (pc := 103) (tgt := 107) dX10_listen_103 (by decide) ?_
                        refine s_istore_n X (pc := 107) (i := 3) (lv2 := [(3, .int (nI k37)), (7, .int ((aX10_listen_9 a31 a32 a33 11) - (aX10_listen_50 a31 a32 a33 k37))), (0, .ref (ad 0)), (1, .int (rX10_bearsNow a31 a32 a33)), (2, .int (aX10_listen_9 a31 a32 a33 11)), (4, .int ((aX10_listen_37 a31 a32 a33 (aX10_listen_9 a31 a32 a33 11) k37).2)), (5, .int (nI k37)), (6, .int (aX10_listen_50 a31 a32 a33 k37))]) dX10_listen_107 rfl (by decide) rfl ?_
                        refine s_iload X (pc := 108) (x := (aX10_listen_9 a31 a32 a33 11) - (aX10_listen_50 a31 a32 a33 k37)) 1 dX10_listen_108 rfl ?_
                        refine s_iload X (pc := 110) (x := (aX10_listen_37 a31 a32 a33 (aX10_listen_9 a31 a32 a33 11) k37).2) 5 dX10_listen_110 rfl ?_
                        refine s_icmp_ge X (pc := 112) (tgt := 120) dX10_listen_112 (by decide) (fun c112 => ?_) (fun c112 => ?_)
                        ·
                          exact absurd c112 c98
                        ·
                          refine s_iload X (pc := 115) (x := (aX10_listen_9 a31 a32 a33 11) - (aX10_listen_50 a31 a32 a33 k37)) 1 dX10_listen_115 rfl ?_
                          refine s_goto X (pc := 117) (tgt := 122) dX10_listen_117 (by decide) ?_
                          refine s_istore X (pc := 122) (i := 4) (lv2 := [(4, .int ((aX10_listen_9 a31 a32 a33 11) - (aX10_listen_50 a31 a32 a33 k37))), (3, .int (nI k37)), (7, .int ((aX10_listen_9 a31 a32 a33 11) - (aX10_listen_50 a31 a32 a33 k37))), (0, .ref (ad 0)), (1, .int (rX10_bearsNow a31 a32 a33)), (2, .int (aX10_listen_9 a31 a32 a33 11)), (5, .int (nI k37)), (6, .int (aX10_listen_50 a31 a32 a33 k37))]) dX10_listen_122 (by decide) rfl ?_
                          refine s_iinc X (pc := 124) (v := nI (k37 + 1)) (lv2 := [(5, .int (nI (k37 + 1))), (4, .int ((aX10_listen_9 a31 a32 a33 11) - (aX10_listen_50 a31 a32 a33 k37))), (3, .int (nI k37)), (7, .int ((aX10_listen_9 a31 a32 a33 11) - (aX10_listen_50 a31 a32 a33 k37))), (0, .ref (ad 0)), (1, .int (rX10_bearsNow a31 a32 a33)), (2, .int (aX10_listen_9 a31 a32 a33 11)), (6, .int (aX10_listen_50 a31 a32 a33 k37))]) 6 dX10_listen_124 rfl (nI_1 _) (by decide) rfl ?_
                          refine s_goto X (pc := 127) (tgt := 37) dX10_listen_127 (by decide) ?_
                          refine s_perm (lv2 := [(0, .ref (ad 0)), (1, .int (rX10_bearsNow a31 a32 a33)), (2, .int (aX10_listen_9 a31 a32 a33 11)), (3, .int (nI k37)), (4, .int ((aX10_listen_9 a31 a32 a33 11) - (aX10_listen_50 a31 a32 a33 k37))), (5, .int (nI (k37 + 1)))]) [4, 5, 6, 2, 1, 0] rfl ?_
                          have hb37 : (aX10_listen_37 a31 a32 a33 (aX10_listen_9 a31 a32 a33 11) (k37 + 1)) = (nI k37, (aX10_listen_9 a31 a32 a33 11) - (aX10_listen_50 a31 a32 a33 k37)) := by rw [aX10_listen_37]; exact ((if_pos c80).trans (if_neg c98))
                          refine s_cast (lv2 := [(0, .ref (ad 0)), (1, .int (rX10_bearsNow a31 a32 a33)), (2, .int (aX10_listen_9 a31 a32 a33 11)), (3, .int ((aX10_listen_37 a31 a32 a33 (aX10_listen_9 a31 a32 a33 11) (k37 + 1)).1)), (4, .int ((aX10_listen_37 a31 a32 a33 (aX10_listen_9 a31 a32 a33 11) (k37 + 1)).2)), (5, .int (nI (k37 + 1)))]) (w2 := wX10 G ad a0 a1 a2 a3 a4 a5 a6 a7 a8 a9 a10 a11 a12 a13 a14 a15 a16 a17 a18 a19 a20 a21 a22 a23 a24 a25 a26 a27 a28 a29 a30 a31 a32 a33 a34 a35 a36 a37 a38) (by first | (rw [hb37]; done) | rfl) (by first | (rw [hb37]; done) | rfl) ?_
                          exact ih37 (k37 + 1) (by omega)
                    ·
                      refine s_iload X (pc := 83) (x := (aX10_listen_50 a31 a32 a33 k37)) 6 dX10_listen_83 rfl ?_
                      refine s_goto X (pc := 85) (tgt := 92) dX10_listen_85 (by decide) ?_
                      refine s_istore X (pc := 92) (i := 7) (lv2 := [(7, .int (aX10_listen_50 a31 a32 a33 k37)), (0, .ref (ad 0)), (1, .int (rX10_bearsNow a31 a32 a33)), (2, .int (aX10_listen_9 a31 a32 a33 11)), (3, .int ((aX10_listen_37 a31 a32 a33 (aX10_listen_9 a31 a32 a33 11) k37).1)), (4, .int ((aX10_listen_37 a31 a32 a33 (aX10_listen_9 a31 a32 a33 11) k37).2)), (5, .int (nI k37)), (6, .int (aX10_listen_50 a31 a32 a33 k37))]) dX10_listen_92 (by decide) rfl ?_
                      refine s_iload X (pc := 94) (x := (aX10_listen_50 a31 a32 a33 k37)) 0 dX10_listen_94 rfl ?_
                      refine s_iload X (pc := 96) (x := (aX10_listen_37 a31 a32 a33 (aX10_listen_9 a31 a32 a33 11) k37).2) 5 dX10_listen_96 rfl ?_
                      refine s_icmp_ge X (pc := 98) (tgt := 106) dX10_listen_98 (by decide) (fun c98 => ?_) (fun c98 => ?_)
                      ·
                        refine s_iload_n X (pc := 106) (x := (aX10_listen_37 a31 a32 a33 (aX10_listen_9 a31 a32 a33 11) k37).1) 4 dX10_listen_106 rfl ?_
                        refine s_istore_n X (pc := 107) (i := 3) (lv2 := [(3, .int ((aX10_listen_37 a31 a32 a33 (aX10_listen_9 a31 a32 a33 11) k37).1)), (7, .int (aX10_listen_50 a31 a32 a33 k37)), (0, .ref (ad 0)), (1, .int (rX10_bearsNow a31 a32 a33)), (2, .int (aX10_listen_9 a31 a32 a33 11)), (4, .int ((aX10_listen_37 a31 a32 a33 (aX10_listen_9 a31 a32 a33 11) k37).2)), (5, .int (nI k37)), (6, .int (aX10_listen_50 a31 a32 a33 k37))]) dX10_listen_107 rfl (by decide) rfl ?_
                        refine s_iload X (pc := 108) (x := (aX10_listen_50 a31 a32 a33 k37)) 1 dX10_listen_108 rfl ?_
                        refine s_iload X (pc := 110) (x := (aX10_listen_37 a31 a32 a33 (aX10_listen_9 a31 a32 a33 11) k37).2) 5 dX10_listen_110 rfl ?_
                        refine s_icmp_ge X (pc := 112) (tgt := 120) dX10_listen_112 (by decide) (fun c112 => ?_) (fun c112 => ?_)
                        ·
                          refine s_iload X (pc := 120) (x := (aX10_listen_37 a31 a32 a33 (aX10_listen_9 a31 a32 a33 11) k37).2) 5 dX10_listen_120 rfl ?_
                          refine s_istore X (pc := 122) (i := 4) (lv2 := [(4, .int ((aX10_listen_37 a31 a32 a33 (aX10_listen_9 a31 a32 a33 11) k37).2)), (3, .int ((aX10_listen_37 a31 a32 a33 (aX10_listen_9 a31 a32 a33 11) k37).1)), (7, .int (aX10_listen_50 a31 a32 a33 k37)), (0, .ref (ad 0)), (1, .int (rX10_bearsNow a31 a32 a33)), (2, .int (aX10_listen_9 a31 a32 a33 11)), (5, .int (nI k37)), (6, .int (aX10_listen_50 a31 a32 a33 k37))]) dX10_listen_122 (by decide) rfl ?_
                          refine s_iinc X (pc := 124) (v := nI (k37 + 1)) (lv2 := [(5, .int (nI (k37 + 1))), (4, .int ((aX10_listen_37 a31 a32 a33 (aX10_listen_9 a31 a32 a33 11) k37).2)), (3, .int ((aX10_listen_37 a31 a32 a33 (aX10_listen_9 a31 a32 a33 11) k37).1)), (7, .int (aX10_listen_50 a31 a32 a33 k37)), (0, .ref (ad 0)), (1, .int (rX10_bearsNow a31 a32 a33)), (2, .int (aX10_listen_9 a31 a32 a33 11)), (6, .int (aX10_listen_50 a31 a32 a33 k37))]) 6 dX10_listen_124 rfl (nI_1 _) (by decide) rfl ?_
                          refine s_goto X (pc := 127) (tgt := 37) dX10_listen_127 (by decide) ?_
                          refine s_perm (lv2 := [(0, .ref (ad 0)), (1, .int (rX10_bearsNow a31 a32 a33)), (2, .int (aX10_listen_9 a31 a32 a33 11)), (3, .int ((aX10_listen_37 a31 a32 a33 (aX10_listen_9 a31 a32 a33 11) k37).1)), (4, .int ((aX10_listen_37 a31 a32 a33 (aX10_listen_9 a31 a32 a33 11) k37).2)), (5, .int (nI (k37 + 1)))]) [4, 5, 6, 2, 1, 0] rfl ?_
                          have hb37 : (aX10_listen_37 a31 a32 a33 (aX10_listen_9 a31 a32 a33 11) (k37 + 1)) = ((aX10_listen_37 a31 a32 a33 (aX10_listen_9 a31 a32 a33 11) k37).1, (aX10_listen_37 a31 a32 a33 (aX10_listen_9 a31 a32 a33 11) k37).2) := by rw [aX10_listen_37]; exact ((if_neg c80).trans (if_pos c98))
                          refine s_cast (lv2 := [(0, .ref (ad 0)), (1, .int (rX10_bearsNow a31 a32 a33)), (2, .int (aX10_listen_9 a31 a32 a33 11)), (3, .int ((aX10_listen_37 a31 a32 a33 (aX10_listen_9 a31 a32 a33 11) (k37 + 1)).1)), (4, .int ((aX10_listen_37 a31 a32 a33 (aX10_listen_9 a31 a32 a33 11) (k37 + 1)).2)), (5, .int (nI (k37 + 1)))]) (w2 := wX10 G ad a0 a1 a2 a3 a4 a5 a6 a7 a8 a9 a10 a11 a12 a13 a14 a15 a16 a17 a18 a19 a20 a21 a22 a23 a24 a25 a26 a27 a28 a29 a30 a31 a32 a33 a34 a35 a36 a37 a38) (by first | (rw [hb37]; done) | rfl) (by first | (rw [hb37]; done) | rfl) ?_
                          exact ih37 (k37 + 1) (by omega)
                        ·
                          exact absurd c98 c112
                      ·
                        refine s_iload X (pc := 101) (x := nI k37) 6 dX10_listen_101 rfl ?_
                        refine s_goto X (pc := 103) (tgt := 107) dX10_listen_103 (by decide) ?_
                        refine s_istore_n X (pc := 107) (i := 3) (lv2 := [(3, .int (nI k37)), (7, .int (aX10_listen_50 a31 a32 a33 k37)), (0, .ref (ad 0)), (1, .int (rX10_bearsNow a31 a32 a33)), (2, .int (aX10_listen_9 a31 a32 a33 11)), (4, .int ((aX10_listen_37 a31 a32 a33 (aX10_listen_9 a31 a32 a33 11) k37).2)), (5, .int (nI k37)), (6, .int (aX10_listen_50 a31 a32 a33 k37))]) dX10_listen_107 rfl (by decide) rfl ?_
                        refine s_iload X (pc := 108) (x := (aX10_listen_50 a31 a32 a33 k37)) 1 dX10_listen_108 rfl ?_
                        refine s_iload X (pc := 110) (x := (aX10_listen_37 a31 a32 a33 (aX10_listen_9 a31 a32 a33 11) k37).2) 5 dX10_listen_110 rfl ?_
                        refine s_icmp_ge X (pc := 112) (tgt := 120) dX10_listen_112 (by decide) (fun c112 => ?_) (fun c112 => ?_)
                        ·
                          exact absurd c112 c98
                        ·
                          refine s_iload X (pc := 115) (x := (aX10_listen_50 a31 a32 a33 k37)) 1 dX10_listen_115 rfl ?_
                          refine s_goto X (pc := 117) (tgt := 122) dX10_listen_117 (by decide) ?_
                          refine s_istore X (pc := 122) (i := 4) (lv2 := [(4, .int (aX10_listen_50 a31 a32 a33 k37)), (3, .int (nI k37)), (7, .int (aX10_listen_50 a31 a32 a33 k37)), (0, .ref (ad 0)), (1, .int (rX10_bearsNow a31 a32 a33)), (2, .int (aX10_listen_9 a31 a32 a33 11)), (5, .int (nI k37)), (6, .int (aX10_listen_50 a31 a32 a33 k37))]) dX10_listen_122 (by decide) rfl ?_
                          refine s_iinc X (pc := 124) (v := nI (k37 + 1)) (lv2 := [(5, .int (nI (k37 + 1))), (4, .int (aX10_listen_50 a31 a32 a33 k37)), (3, .int (nI k37)), (7, .int (aX10_listen_50 a31 a32 a33 k37)), (0, .ref (ad 0)), (1, .int (rX10_bearsNow a31 a32 a33)), (2, .int (aX10_listen_9 a31 a32 a33 11)), (6, .int (aX10_listen_50 a31 a32 a33 k37))]) 6 dX10_listen_124 rfl (nI_1 _) (by decide) rfl ?_
                          refine s_goto X (pc := 127) (tgt := 37) dX10_listen_127 (by decide) ?_
                          refine s_perm (lv2 := [(0, .ref (ad 0)), (1, .int (rX10_bearsNow a31 a32 a33)), (2, .int (aX10_listen_9 a31 a32 a33 11)), (3, .int (nI k37)), (4, .int (aX10_listen_50 a31 a32 a33 k37)), (5, .int (nI (k37 + 1)))]) [4, 5, 6, 2, 1, 0] rfl ?_
                          have hb37 : (aX10_listen_37 a31 a32 a33 (aX10_listen_9 a31 a32 a33 11) (k37 + 1)) = (nI k37, (aX10_listen_50 a31 a32 a33 k37)) := by rw [aX10_listen_37]; exact ((if_neg c80).trans (if_neg c98))
                          refine s_cast (lv2 := [(0, .ref (ad 0)), (1, .int (rX10_bearsNow a31 a32 a33)), (2, .int (aX10_listen_9 a31 a32 a33 11)), (3, .int ((aX10_listen_37 a31 a32 a33 (aX10_listen_9 a31 a32 a33 11) (k37 + 1)).1)), (4, .int ((aX10_listen_37 a31 a32 a33 (aX10_listen_9 a31 a32 a33 11) (k37 + 1)).2)), (5, .int (nI (k37 + 1)))]) (w2 := wX10 G ad a0 a1 a2 a3 a4 a5 a6 a7 a8 a9 a10 a11 a12 a13 a14 a15 a16 a17 a18 a19 a20 a21 a22 a23 a24 a25 a26 a27 a28 a29 a30 a31 a32 a33 a34 a35 a36 a37 a38) (by first | (rw [hb37]; done) | rfl) (by first | (rw [hb37]; done) | rfl) ?_
                          exact ih37 (k37 + 1) (by omega)
                  ·
                    exact absurd ((t_le eN50 tk50).mpr (by omega)) c54
                | succ n50 ih50 =>
                  intro k50 hk50
                  have hlt50 : k50 < k37 := by omega
                  have tk50 : (nI k50).toInt = ((k50 : Nat) : Int) := nI_toInt (by omega)
                  have eN50 : (nI k37).toInt = ((k37 : Nat) : Int) := tk37
                  refine s_iload X (pc := 50) (x := nI k50) 7 dX10_listen_50 rfl ?_
                  refine s_iload X (pc := 52) (x := nI k37) 5 dX10_listen_52 rfl ?_
                  refine s_icmp_ge X (pc := 54) (tgt := 74) dX10_listen_54 (by decide) (fun c54 => ?_) (fun c54 => ?_)
                  ·
                    exact absurd ((t_le eN50 tk50).mp c54) (by omega)
                  ·
                    refine s_iload X (pc := 57) (x := (aX10_listen_50 a31 a32 a33 k50)) 6 dX10_listen_57 rfl ?_
                    refine s_iload_n X (pc := 59) (x := rX10_bearsNow a31 a32 a33) 1 dX10_listen_59 rfl ?_
                    refine s_iload X (pc := 60) (x := nI k50) 7 dX10_listen_60 rfl ?_
                    refine s_ishr X (pc := 62) dX10_listen_62 ?_
                    refine s_iconst X (pc := 63) (v := 1) dX10_listen_63 (by decide) ?_
                    refine s_iand X (pc := 64) dX10_listen_64 ?_
                    refine s_iadd X (pc := 65) dX10_listen_65 ?_
                    refine s_istore X (pc := 66) (i := 6) (lv2 := [(6, .int ((aX10_listen_50 a31 a32 a33 k50) + (((rX10_bearsNow a31 a32 a33) >>> ((nI k50) &&& 31)) &&& (1 : Int32)))), (0, .ref (ad 0)), (1, .int (rX10_bearsNow a31 a32 a33)), (2, .int (aX10_listen_9 a31 a32 a33 11)), (3, .int ((aX10_listen_37 a31 a32 a33 (aX10_listen_9 a31 a32 a33 11) k37).1)), (4, .int ((aX10_listen_37 a31 a32 a33 (aX10_listen_9 a31 a32 a33 11) k37).2)), (5, .int (nI k37)), (7, .int (nI k50))]) dX10_listen_66 (by decide) rfl ?_
                    refine s_iinc X (pc := 68) (v := nI (k50 + 1)) (lv2 := [(7, .int (nI (k50 + 1))), (6, .int ((aX10_listen_50 a31 a32 a33 k50) + (((rX10_bearsNow a31 a32 a33) >>> ((nI k50) &&& 31)) &&& (1 : Int32)))), (0, .ref (ad 0)), (1, .int (rX10_bearsNow a31 a32 a33)), (2, .int (aX10_listen_9 a31 a32 a33 11)), (3, .int ((aX10_listen_37 a31 a32 a33 (aX10_listen_9 a31 a32 a33 11) k37).1)), (4, .int ((aX10_listen_37 a31 a32 a33 (aX10_listen_9 a31 a32 a33 11) k37).2)), (5, .int (nI k37))]) 7 dX10_listen_68 rfl (nI_1 _) (by decide) rfl ?_
                    refine s_goto X (pc := 71) (tgt := 50) dX10_listen_71 (by decide) ?_
                    refine s_perm (lv2 := [(0, .ref (ad 0)), (1, .int (rX10_bearsNow a31 a32 a33)), (2, .int (aX10_listen_9 a31 a32 a33 11)), (3, .int ((aX10_listen_37 a31 a32 a33 (aX10_listen_9 a31 a32 a33 11) k37).1)), (4, .int ((aX10_listen_37 a31 a32 a33 (aX10_listen_9 a31 a32 a33 11) k37).2)), (5, .int (nI k37)), (6, .int ((aX10_listen_50 a31 a32 a33 k50) + (((rX10_bearsNow a31 a32 a33) >>> ((nI k50) &&& 31)) &&& (1 : Int32)))), (7, .int (nI (k50 + 1)))]) [2, 3, 4, 5, 6, 7, 1, 0] rfl ?_
                    have hb50 : (aX10_listen_50 a31 a32 a33 (k50 + 1)) = (aX10_listen_50 a31 a32 a33 k50) + (((rX10_bearsNow a31 a32 a33) >>> ((nI k50) &&& 31)) &&& (1 : Int32)) := rfl
                    refine s_cast (lv2 := [(0, .ref (ad 0)), (1, .int (rX10_bearsNow a31 a32 a33)), (2, .int (aX10_listen_9 a31 a32 a33 11)), (3, .int ((aX10_listen_37 a31 a32 a33 (aX10_listen_9 a31 a32 a33 11) k37).1)), (4, .int ((aX10_listen_37 a31 a32 a33 (aX10_listen_9 a31 a32 a33 11) k37).2)), (5, .int (nI k37)), (6, .int (aX10_listen_50 a31 a32 a33 (k50 + 1))), (7, .int (nI (k50 + 1)))]) (w2 := wX10 G ad a0 a1 a2 a3 a4 a5 a6 a7 a8 a9 a10 a11 a12 a13 a14 a15 a16 a17 a18 a19 a20 a21 a22 a23 a24 a25 a26 a27 a28 a29 a30 a31 a32 a33 a34 a35 a36 a37 a38) (by first | (rw [hb50]; done) | rfl) (by first | (rw [hb50]; done) | rfl) ?_
                    exact ih50 (k50 + 1) (by omega)
              exact L50 k37 0 (Nat.zero_add _)
        exact L37 11 0 (Nat.zero_add _)
      ·
        exact absurd ((t_le eN9 tk9).mpr (by omega)) c12
    | succ n9 ih9 =>
      intro k9 hk9
      have hlt9 : k9 < 11 := by omega
      have tk9 : (nI k9).toInt = ((k9 : Nat) : Int) := nI_toInt (by omega)
      have eN9 : ((11 : Int32)).toInt = ((11 : Nat) : Int) := rfl
      refine s_iload_n X (pc := 9) (x := nI k9) 3 dX10_listen_9 rfl ?_
      refine s_bipush X (pc := 10) (v := 11) dX10_listen_10 (by decide) ?_
      refine s_icmp_ge X (pc := 12) (tgt := 29) dX10_listen_12 (by decide) (fun c12 => ?_) (fun c12 => ?_)
      ·
        exact absurd ((t_le eN9 tk9).mp c12) (by omega)
      ·
        refine s_iload_n X (pc := 15) (x := (aX10_listen_9 a31 a32 a33 k9)) 2 dX10_listen_15 rfl ?_
        refine s_iload_n X (pc := 16) (x := rX10_bearsNow a31 a32 a33) 1 dX10_listen_16 rfl ?_
        refine s_iload_n X (pc := 17) (x := nI k9) 3 dX10_listen_17 rfl ?_
        refine s_ishr X (pc := 18) dX10_listen_18 ?_
        refine s_iconst X (pc := 19) (v := 1) dX10_listen_19 (by decide) ?_
        refine s_iand X (pc := 20) dX10_listen_20 ?_
        refine s_iadd X (pc := 21) dX10_listen_21 ?_
        refine s_istore_n X (pc := 22) (i := 2) (lv2 := [(2, .int ((aX10_listen_9 a31 a32 a33 k9) + (((rX10_bearsNow a31 a32 a33) >>> ((nI k9) &&& 31)) &&& (1 : Int32)))), (0, .ref (ad 0)), (1, .int (rX10_bearsNow a31 a32 a33)), (3, .int (nI k9))]) dX10_listen_22 rfl (by decide) rfl ?_
        refine s_iinc X (pc := 23) (v := nI (k9 + 1)) (lv2 := [(3, .int (nI (k9 + 1))), (2, .int ((aX10_listen_9 a31 a32 a33 k9) + (((rX10_bearsNow a31 a32 a33) >>> ((nI k9) &&& 31)) &&& (1 : Int32)))), (0, .ref (ad 0)), (1, .int (rX10_bearsNow a31 a32 a33))]) 3 dX10_listen_23 rfl (nI_1 _) (by decide) rfl ?_
        refine s_goto X (pc := 26) (tgt := 9) dX10_listen_26 (by decide) ?_
        refine s_perm (lv2 := [(0, .ref (ad 0)), (1, .int (rX10_bearsNow a31 a32 a33)), (2, .int ((aX10_listen_9 a31 a32 a33 k9) + (((rX10_bearsNow a31 a32 a33) >>> ((nI k9) &&& 31)) &&& (1 : Int32)))), (3, .int (nI (k9 + 1)))]) [2, 3, 1, 0] rfl ?_
        have hb9 : (aX10_listen_9 a31 a32 a33 (k9 + 1)) = (aX10_listen_9 a31 a32 a33 k9) + (((rX10_bearsNow a31 a32 a33) >>> ((nI k9) &&& 31)) &&& (1 : Int32)) := rfl
        refine s_cast (lv2 := [(0, .ref (ad 0)), (1, .int (rX10_bearsNow a31 a32 a33)), (2, .int (aX10_listen_9 a31 a32 a33 (k9 + 1))), (3, .int (nI (k9 + 1)))]) (w2 := wX10 G ad a0 a1 a2 a3 a4 a5 a6 a7 a8 a9 a10 a11 a12 a13 a14 a15 a16 a17 a18 a19 a20 a21 a22 a23 a24 a25 a26 a27 a28 a29 a30 a31 a32 a33 a34 a35 a36 a37 a38) (by first | (rw [hb9]; done) | rfl) (by first | (rw [hb9]; done) | rfl) ?_
        exact ih9 (k9 + 1) (by omega)
  exact L9 11 0 (Nat.zero_add _)

theorem iX10_write_X10 : ∀ z ∈ wsX100, z ∈ wsX10_write := fun z h => List.mem_cons_of_mem _ (List.mem_append_right _ h)
theorem kX10_write_l247 : Jvm.Cond.constantLong RX10 247 (4) ∈ wsX10_write := List.mem_of_getElem? (i := 2) rfl
theorem kX10_write_164 : Cond.fieldLink RX10 164 "BathingCourtModel" (TX10 34).2.1 (TX10 34).2.2.1 ∈ wsX10_write := List.mem_of_getElem? (i := 4) rfl
theorem kX10_write_75 : Cond.fieldLink RX10 75 "BathingCourtModel" (TX10 35).2.1 (TX10 35).2.2.1 ∈ wsX10_write := List.mem_of_getElem? (i := 6) rfl
theorem kX10_write_78 : Cond.fieldLink RX10 78 "BathingCourtModel" (TX10 36).2.1 (TX10 36).2.2.1 ∈ wsX10_write := List.mem_of_getElem? (i := 7) rfl
theorem kX10_write_c105 : Jvm.Cond.constant RX10 105 (-1000000004) ∈ wsX10_write := List.mem_of_getElem? (i := 5) rfl
theorem kX10_write_c101 : Jvm.Cond.constant RX10 101 (-1000000002) ∈ wsX10_write := List.mem_of_getElem? (i := 3) rfl
theorem kX10_write_c190 : Jvm.Cond.constant RX10 190 (-1000000001) ∈ wsX10_write := List.mem_of_getElem? (i := 1) rfl
def rX10_write (a4 a34 p0 p1 : Int32) : Int32 := if (rX10_isCase a4 p0) = 0 then (-1000000001 : Int32) else (if (rX10_in p1.toInt64 (0 : Int64) (4 : Int64)) = 0 then (-1000000002 : Int32) else (if a34 = (15 : Int32) then (-1000000004 : Int32) else (a34 + (1 : Int32))))
def sX10_write_34 (a4 a34 p0 p1 : Int32) : Int32 := if (rX10_isCase a4 p0) = 0 then a34 else (if (rX10_in p1.toInt64 (0 : Int64) (4 : Int64)) = 0 then a34 else (if a34 = (15 : Int32) then a34 else (a34 + (1 : Int32))))
def sX10_write_35 (a4 a34 : Int32) (a35 : Nat → Int32) (p0 p1 : Int32) : Nat → Int32 := if (rX10_isCase a4 p0) = 0 then a35 else (if (rX10_in p1.toInt64 (0 : Int64) (4 : Int64)) = 0 then a35 else (if a34 = (15 : Int32) then a35 else (upd a35 a34.toNatClampNeg p0)))
def sX10_write_36 (a4 a34 : Int32) (a36 : Nat → Int32) (p0 p1 : Int32) : Nat → Int32 := if (rX10_isCase a4 p0) = 0 then a36 else (if (rX10_in p1.toInt64 (0 : Int64) (4 : Int64)) = 0 then a36 else (if a34 = (15 : Int32) then a36 else (upd a36 a34.toNatClampNeg p1)))
set_option maxRecDepth 100000 in
set_option maxHeartbeats 4000000 in
theorem c_X10_write (l : Launch) (G : GT) (ad : Nat → Nat) (a0 : Int32) (a1 : Nat → Int32) (a2 : Int32) (a3 : Nat → Int32) (a4 : Int32) (a5 a6 a7 a8 a9 : Nat → Int32) (a10 : Int32) (a11 : Nat → Int32) (a12 a13 a14 a15 a16 a17 : Int32) (a18 : Nat → Int32) (a19 : Int32) (a20 : Nat → Int32) (a21 : Int32) (a22 a23 a24 a25 : Nat → Int32) (a26 : Int32) (a27 a28 a29 a30 : Nat → Int32) (a31 : Int32) (a32 a33 : Nat → Int32) (a34 : Int32) (a35 a36 a37 a38 : Nat → Int32) (p0 p1 : Int32) (ca : 0 ≤ a4) (cb : a4 ≤ 5) (b0 : 0 ≤ a34) (b15 : a34 ≤ 15) : Ci l G yX10_write wsX10_write (rmL 2) [.ref (ad 0), .int p0, .int p1] (wX10 G ad a0 a1 a2 a3 a4 a5 a6 a7 a8 a9 a10 a11 a12 a13 a14 a15 a16 a17 a18 a19 a20 a21 a22 a23 a24 a25 a26 a27 a28 a29 a30 a31 a32 a33 a34 a35 a36 a37 a38) (rX10_write a4 a34 p0 p1) (wX10 G ad a0 a1 a2 a3 a4 a5 a6 a7 a8 a9 a10 a11 a12 a13 a14 a15 a16 a17 a18 a19 a20 a21 a22 a23 a24 a25 a26 a27 a28 a29 a30 a31 a32 a33 (sX10_write_34 a4 a34 p0 p1) (sX10_write_35 a4 a34 a35 p0 p1) (sX10_write_36 a4 a34 a36 p0 p1) a37 a38) := by
  refine ci_start .int (by decide) rfl rfl (Nat.le_of_ble_eq_true rfl) ?_
  intro p e s m args below meth c A X
  refine s_perm (lv2 := [(0, .ref (ad 0)), (1, .int p0), (2, .int p1)]) [0, 1, 2] rfl ?_
  refine s_aload_n X (pc := 0) (x := (ad 0)) 0 dX10_write_0 rfl ?_
  refine s_iload_n X (pc := 1) (x := p0) 1 dX10_write_1 rfl ?_
  refine s_callVi0 X (pc := 2) (r := rX10_isCase a4 p0) (w := wX10 G ad a0 a1 a2 a3 a4 a5 a6 a7 a8 a9 a10 a11 a12 a13 a14 a15 a16 a17 a18 a19 a20 a21 a22 a23 a24 a25 a26 a27 a28 a29 a30 a31 a32 a33 a34 a35 a36 a37 a38) (n := 1) (st := []) (As := [.int p0]) (w2 := wX10 G ad a0 a1 a2 a3 a4 a5 a6 a7 a8 a9 a10 a11 a12 a13 a14 a15 a16 a17 a18 a19 a20 a21 a22 a23 a24 a25 a26 a27 a28 a29 a30 a31 a32 a33 a34 a35 a36 a37 a38) 1 (c_X10_isCase l G ad a0 a1 a2 a3 a4 a5 a6 a7 a8 a9 a10 a11 a12 a13 a14 a15 a16 a17 a18 a19 a20 a21 a22 a23 a24 a25 a26 a27 a28 a29 a30 a31 a32 a33 a34 a35 a36 a37 a38 p0) gX10_write_X10_isCase rfl (by decide +kernel) ⟨Nat.le_of_ble_eq_true rfl, Nat.le_of_ble_eq_true rfl⟩ 0 rfl rfl rfl rfl (Nat.le_of_ble_eq_true rfl) (Nat.zero_le _) (Nat.zero_le _) dX10_write_2 ?_
  refine s_if_ne X (pc := 5) (tgt := 11) dX10_write_5 (by decide) (fun c5 => ?_) (fun c5 => ?_)
  ·
    refine s_iload_n X (pc := 11) (x := p1) 2 dX10_write_11 rfl ?_
    refine s_i2l X (pc := 12) dX10_write_12 ?_
    refine s_lconst X (pc := 13) (v := 0) dX10_write_13 (by decide) ?_
    refine s_ldc2 X (pc := 14) (v := 4) kX10_write_l247 dX10_write_14 ?_
    refine s_callSiN X (pc := 17) (r := rX10_in p1.toInt64 (0 : Int64) (4 : Int64)) (n := 3) (st := []) (As := [.long p1.toInt64, .long (0 : Int64), .long (4 : Int64)]) 0 (c_X10_in l G p1.toInt64 (0 : Int64) (4 : Int64)) gX10_write_X10_in rfl (by decide +kernel) ⟨Nat.le_of_ble_eq_true rfl, Nat.le_of_ble_eq_true rfl⟩ rfl rfl (Nat.le_of_ble_eq_true rfl) (Nat.zero_le _) (Nat.zero_le _) dX10_write_17 ?_
    refine s_if_ne X (pc := 20) (tgt := 26) dX10_write_20 (by decide) (fun c20 => ?_) (fun c20 => ?_)
    ·
      refine s_aload_n X (pc := 26) (x := (ad 0)) 0 dX10_write_26 rfl ?_
      refine s_get X (pc := 27) (v := .int a34) iX10_write_X10 0 rfl rfl 34 (by decide) kX10_write_164 rfl rfl dX10_write_27 ?_
      refine s_bipush X (pc := 30) (v := 15) dX10_write_30 (by decide) ?_
      refine s_icmp_ne X (pc := 32) (tgt := 38) dX10_write_32 (by decide) (fun c32 => ?_) (fun c32 => ?_)
      ·
        refine s_aload_n X (pc := 38) (x := (ad 0)) 0 dX10_write_38 rfl ?_
        refine s_get X (pc := 39) (v := .ref (ad 36)) iX10_write_X10 0 rfl rfl 35 (by decide) kX10_write_75 rfl rfl dX10_write_39 ?_
        refine s_aload_n X (pc := 42) (x := (ad 0)) 0 dX10_write_42 rfl ?_
        refine s_get X (pc := 43) (v := .int a34) iX10_write_X10 0 rfl rfl 34 (by decide) kX10_write_164 rfl rfl dX10_write_43 ?_
        refine s_iload_n X (pc := 46) (x := p0) 1 dX10_write_46 rfl ?_
        refine s_iast X (pc := 47) (n := 15) (f := a35) (w2 := wX10 G ad a0 a1 a2 a3 a4 a5 a6 a7 a8 a9 a10 a11 a12 a13 a14 a15 a16 a17 a18 a19 a20 a21 a22 a23 a24 a25 a26 a27 a28 a29 a30 a31 a32 a33 a34 (upd a35 a34.toNatClampNeg p0) a36 a37 a38) 21 rfl (by first | with_reducible assumption | exact vin (b := 15) rfl (by grind) (by grind)) rfl dX10_write_47 ?_
        refine s_aload_n X (pc := 48) (x := (ad 0)) 0 dX10_write_48 rfl ?_
        refine s_get X (pc := 49) (v := .ref (ad 37)) iX10_write_X10 0 rfl rfl 36 (by decide) kX10_write_78 rfl rfl dX10_write_49 ?_
        refine s_aload_n X (pc := 52) (x := (ad 0)) 0 dX10_write_52 rfl ?_
        refine s_get X (pc := 53) (v := .int a34) iX10_write_X10 0 rfl rfl 34 (by decide) kX10_write_164 rfl rfl dX10_write_53 ?_
        refine s_iload_n X (pc := 56) (x := p1) 2 dX10_write_56 rfl ?_
        refine s_iast X (pc := 57) (n := 15) (f := a36) (w2 := wX10 G ad a0 a1 a2 a3 a4 a5 a6 a7 a8 a9 a10 a11 a12 a13 a14 a15 a16 a17 a18 a19 a20 a21 a22 a23 a24 a25 a26 a27 a28 a29 a30 a31 a32 a33 a34 (upd a35 a34.toNatClampNeg p0) (upd a36 a34.toNatClampNeg p1) a37 a38) 22 rfl (by first | with_reducible assumption | exact vin (b := 15) rfl (by grind) (by grind)) rfl dX10_write_57 ?_
        refine s_aload_n X (pc := 58) (x := (ad 0)) 0 dX10_write_58 rfl ?_
        refine s_dup X (pc := 59) dX10_write_59 rfl ?_
        refine s_get X (pc := 60) (v := .int a34) iX10_write_X10 0 rfl rfl 34 (by decide) kX10_write_164 rfl rfl dX10_write_60 ?_
        refine s_iconst X (pc := 63) (v := 1) dX10_write_63 (by decide) ?_
        refine s_iadd X (pc := 64) dX10_write_64 ?_
        refine s_put X (pc := 65) (v := .int (a34 + (1 : Int32))) (w2 := wX10 G ad a0 a1 a2 a3 a4 a5 a6 a7 a8 a9 a10 a11 a12 a13 a14 a15 a16 a17 a18 a19 a20 a21 a22 a23 a24 a25 a26 a27 a28 a29 a30 a31 a32 a33 (a34 + (1 : Int32)) (upd a35 a34.toNatClampNeg p0) (upd a36 a34.toNatClampNeg p1) a37 a38) iX10_write_X10 0 rfl rfl 34 (by decide) kX10_write_164 rfl tyX10 tyX10_ok nmX10 rfl (ty := .int) (by decide +kernel) rfl rfl (Nat.le_of_ble_eq_true rfl) rfl dX10_write_65 ?_
        refine s_aload_n X (pc := 68) (x := (ad 0)) 0 dX10_write_68 rfl ?_
        refine s_get X (pc := 69) (v := .int (a34 + (1 : Int32))) iX10_write_X10 0 rfl rfl 34 (by decide) kX10_write_164 rfl rfl dX10_write_69 ?_
        exact s_iret X (pc := 72) (v := a34 + (1 : Int32)) dX10_write_72 (Eq.symm (show rX10_write a4 a34 p0 p1 = a34 + (1 : Int32) from (by unfold rX10_write; exact ((if_neg c5).trans ((if_neg c20).trans (if_neg c32)))))) (by rw [show sX10_write_34 a4 a34 p0 p1 = a34 + (1 : Int32) from (by unfold sX10_write_34; exact ((if_neg c5).trans ((if_neg c20).trans (if_neg c32)))), show sX10_write_35 a4 a34 a35 p0 p1 = upd a35 a34.toNatClampNeg p0 from (by unfold sX10_write_35; exact ((if_neg c5).trans ((if_neg c20).trans (if_neg c32)))), show sX10_write_36 a4 a34 a36 p0 p1 = upd a36 a34.toNatClampNeg p1 from (by unfold sX10_write_36; exact ((if_neg c5).trans ((if_neg c20).trans (if_neg c32))))])
      ·
        refine s_ldc X (pc := 35) (v := -1000000004) kX10_write_c105 dX10_write_35 ?_
        exact s_iret X (pc := 37) (v := (-1000000004 : Int32)) dX10_write_37 (Eq.symm (show rX10_write a4 a34 p0 p1 = (-1000000004 : Int32) from (by unfold rX10_write; exact ((if_neg c5).trans ((if_neg c20).trans (if_pos c32)))))) (by rw [show sX10_write_34 a4 a34 p0 p1 = a34 from (by unfold sX10_write_34; exact ((if_neg c5).trans ((if_neg c20).trans (if_pos c32)))), show sX10_write_35 a4 a34 a35 p0 p1 = a35 from (by unfold sX10_write_35; exact ((if_neg c5).trans ((if_neg c20).trans (if_pos c32)))), show sX10_write_36 a4 a34 a36 p0 p1 = a36 from (by unfold sX10_write_36; exact ((if_neg c5).trans ((if_neg c20).trans (if_pos c32))))])
    ·
      refine s_ldc X (pc := 23) (v := -1000000002) kX10_write_c101 dX10_write_23 ?_
      exact s_iret X (pc := 25) (v := (-1000000002 : Int32)) dX10_write_25 (Eq.symm (show rX10_write a4 a34 p0 p1 = (-1000000002 : Int32) from (by unfold rX10_write; exact ((if_neg c5).trans (if_pos c20))))) (by rw [show sX10_write_34 a4 a34 p0 p1 = a34 from (by unfold sX10_write_34; exact ((if_neg c5).trans (if_pos c20))), show sX10_write_35 a4 a34 a35 p0 p1 = a35 from (by unfold sX10_write_35; exact ((if_neg c5).trans (if_pos c20))), show sX10_write_36 a4 a34 a36 p0 p1 = a36 from (by unfold sX10_write_36; exact ((if_neg c5).trans (if_pos c20)))])
  ·
    refine s_ldc X (pc := 8) (v := -1000000001) kX10_write_c190 dX10_write_8 ?_
    exact s_iret X (pc := 10) (v := (-1000000001 : Int32)) dX10_write_10 (Eq.symm (show rX10_write a4 a34 p0 p1 = (-1000000001 : Int32) from (by unfold rX10_write; exact (if_pos c5)))) (by rw [show sX10_write_34 a4 a34 p0 p1 = a34 from (by unfold sX10_write_34; exact (if_pos c5)), show sX10_write_35 a4 a34 a35 p0 p1 = a35 from (by unfold sX10_write_35; exact (if_pos c5)), show sX10_write_36 a4 a34 a36 p0 p1 = a36 from (by unfold sX10_write_36; exact (if_pos c5))])

theorem iX10_tear_X10 : ∀ z ∈ wsX100, z ∈ wsX10_tear := fun z h => List.mem_cons_of_mem _ (List.mem_append_right _ h)
theorem kX10_tear_161 : Cond.fieldLink RX10 161 "BathingCourtModel" (TX10 31).2.1 (TX10 31).2.2.1 ∈ wsX10_tear := List.mem_of_getElem? (i := 1) rfl
theorem kX10_tear_164 : Cond.fieldLink RX10 164 "BathingCourtModel" (TX10 34).2.1 (TX10 34).2.2.1 ∈ wsX10_tear := List.mem_of_getElem? (i := 2) rfl
def rX10_tear (a31 a34 : Int32) : Int32 := a31 + a34
def sX10_tear_31 : Int32 := (0 : Int32)
def sX10_tear_34 : Int32 := (0 : Int32)
set_option maxRecDepth 100000 in
set_option maxHeartbeats 4000000 in
theorem c_X10_tear (l : Launch) (G : GT) (ad : Nat → Nat) (a0 : Int32) (a1 : Nat → Int32) (a2 : Int32) (a3 : Nat → Int32) (a4 : Int32) (a5 a6 a7 a8 a9 : Nat → Int32) (a10 : Int32) (a11 : Nat → Int32) (a12 a13 a14 a15 a16 a17 : Int32) (a18 : Nat → Int32) (a19 : Int32) (a20 : Nat → Int32) (a21 : Int32) (a22 a23 a24 a25 : Nat → Int32) (a26 : Int32) (a27 a28 a29 a30 : Nat → Int32) (a31 : Int32) (a32 a33 : Nat → Int32) (a34 : Int32) (a35 a36 a37 a38 : Nat → Int32) : Ci l G yX10_tear wsX10_tear (rmL 0) [.ref (ad 0)] (wX10 G ad a0 a1 a2 a3 a4 a5 a6 a7 a8 a9 a10 a11 a12 a13 a14 a15 a16 a17 a18 a19 a20 a21 a22 a23 a24 a25 a26 a27 a28 a29 a30 a31 a32 a33 a34 a35 a36 a37 a38) (rX10_tear a31 a34) (wX10 G ad a0 a1 a2 a3 a4 a5 a6 a7 a8 a9 a10 a11 a12 a13 a14 a15 a16 a17 a18 a19 a20 a21 a22 a23 a24 a25 a26 a27 a28 a29 a30 sX10_tear_31 a32 a33 sX10_tear_34 a35 a36 a37 a38) := by
  refine ci_start .int (by decide) rfl rfl (Nat.le_of_ble_eq_true rfl) ?_
  intro p e s m args below meth c A X
  refine s_perm (lv2 := [(0, .ref (ad 0))]) [0] rfl ?_
  refine s_aload_n X (pc := 0) (x := (ad 0)) 0 dX10_tear_0 rfl ?_
  refine s_get X (pc := 1) (v := .int a31) iX10_tear_X10 0 rfl rfl 31 (by decide) kX10_tear_161 rfl rfl dX10_tear_1 ?_
  refine s_aload_n X (pc := 4) (x := (ad 0)) 0 dX10_tear_4 rfl ?_
  refine s_get X (pc := 5) (v := .int a34) iX10_tear_X10 0 rfl rfl 34 (by decide) kX10_tear_164 rfl rfl dX10_tear_5 ?_
  refine s_iadd X (pc := 8) dX10_tear_8 ?_
  refine s_istore_n X (pc := 9) (i := 1) (lv2 := [(1, .int (a31 + a34)), (0, .ref (ad 0))]) dX10_tear_9 rfl (by decide) rfl ?_
  refine s_aload_n X (pc := 10) (x := (ad 0)) 1 dX10_tear_10 rfl ?_
  refine s_iconst X (pc := 11) (v := 0) dX10_tear_11 (by decide) ?_
  refine s_put X (pc := 12) (v := .int (0 : Int32)) (w2 := wX10 G ad a0 a1 a2 a3 a4 a5 a6 a7 a8 a9 a10 a11 a12 a13 a14 a15 a16 a17 a18 a19 a20 a21 a22 a23 a24 a25 a26 a27 a28 a29 a30 (0 : Int32) a32 a33 a34 a35 a36 a37 a38) iX10_tear_X10 0 rfl rfl 31 (by decide) kX10_tear_161 rfl tyX10 tyX10_ok nmX10 rfl (ty := .int) (by decide +kernel) rfl rfl (Nat.le_of_ble_eq_true rfl) rfl dX10_tear_12 ?_
  refine s_aload_n X (pc := 15) (x := (ad 0)) 1 dX10_tear_15 rfl ?_
  refine s_iconst X (pc := 16) (v := 0) dX10_tear_16 (by decide) ?_
  refine s_put X (pc := 17) (v := .int (0 : Int32)) (w2 := wX10 G ad a0 a1 a2 a3 a4 a5 a6 a7 a8 a9 a10 a11 a12 a13 a14 a15 a16 a17 a18 a19 a20 a21 a22 a23 a24 a25 a26 a27 a28 a29 a30 (0 : Int32) a32 a33 (0 : Int32) a35 a36 a37 a38) iX10_tear_X10 0 rfl rfl 34 (by decide) kX10_tear_164 rfl tyX10 tyX10_ok nmX10 rfl (ty := .int) (by decide +kernel) rfl rfl (Nat.le_of_ble_eq_true rfl) rfl dX10_tear_17 ?_
  refine s_iload_n X (pc := 20) (x := a31 + a34) 0 dX10_tear_20 rfl ?_
  exact s_iret X (pc := 21) (v := a31 + a34) dX10_tear_21 rfl (by rw [show sX10_tear_31 = (0 : Int32) from rfl, show sX10_tear_34 = (0 : Int32) from rfl])

theorem m24a {x : Int32} {k : Nat} (h0 : 0 ≤ x) (h1 : x ≤ 1) (hk : k < 24) : (24 : Int32) * x + nI k = nI (24 * x.toNatClampNeg + k) ∧ 24 * x.toNatClampNeg + k < 48 := by
  have e := clampEq h0
  have hn := clampLe (n := 1) (b := 1) rfl h0 h1
  refine ⟨?_, by omega⟩
  conv => lhs; rw [e]
  rw [show (24 : Int32) * nI x.toNatClampNeg = nI (24 * x.toNatClampNeg) from pk_mul 24 x.toNatClampNeg]
  exact nI_add _ _
theorem m24v {x : Int32} {k : Nat} (h0 : 0 ≤ x) (h1 : x ≤ 1) (hk : k < 24) : vp_in ((24 : Int32) * x + nI k) 48 := by
  rw [(m24a h0 h1 hk).1]
  exact vp_in_nI (m24a h0 h1 hk).2 (by decide)
theorem vin12 {x : Int32} (h : vp_in x 5) : vp_in ((12 : Int32) + x) 23 := by
  obtain ⟨j, hj, rfl⟩ := vp_in_of h (by omega)
  rw [show (12 : Int32) + nI j = nI (12 + j) from nI_add 12 j]
  exact vp_in_nI (by omega) (by decide)

theorem iX10_judge_X10 : ∀ z ∈ wsX100, z ∈ wsX10_judge := fun z h => List.mem_cons_of_mem _ (List.mem_append_right _ h)
theorem kX10_judge_164 : Cond.fieldLink RX10 164 "BathingCourtModel" (TX10 34).2.1 (TX10 34).2.2.1 ∈ wsX10_judge := List.mem_of_getElem? (i := 1) rfl
theorem kX10_judge_28 : Cond.fieldLink RX10 28 "BathingCourtModel" (TX10 9).2.1 (TX10 9).2.2.1 ∈ wsX10_judge := List.mem_of_getElem? (i := 2) rfl
theorem kX10_judge_75 : Cond.fieldLink RX10 75 "BathingCourtModel" (TX10 35).2.1 (TX10 35).2.2.1 ∈ wsX10_judge := List.mem_of_getElem? (i := 3) rfl
theorem kX10_judge_78 : Cond.fieldLink RX10 78 "BathingCourtModel" (TX10 36).2.1 (TX10 36).2.2.1 ∈ wsX10_judge := List.mem_of_getElem? (i := 4) rfl
def aX10_judge_2 (a9 a35 a36 : Nat → Int32) : Nat → Nat → Int32
  | 0, k2 => (-1 : Int32)
  | n2 + 1, k2 => if (a9 ((12 : Int32) + (a35 (nI k2).toNatClampNeg)).toNatClampNeg) = (a36 (nI k2).toNatClampNeg) then (aX10_judge_2 a9 a35 a36 n2 (k2 + 1)) else (nI k2)
def rX10_judge (a9 : Nat → Int32) (a34 : Int32) (a35 a36 : Nat → Int32) : Int32 := aX10_judge_2 a9 a35 a36 a34.toNatClampNeg 0 
set_option maxRecDepth 100000 in
set_option maxHeartbeats 4000000 in
theorem c_X10_judge (l : Launch) (G : GT) (ad : Nat → Nat) (a0 : Int32) (a1 : Nat → Int32) (a2 : Int32) (a3 : Nat → Int32) (a4 : Int32) (a5 a6 a7 a8 a9 : Nat → Int32) (a10 : Int32) (a11 : Nat → Int32) (a12 a13 a14 a15 a16 a17 : Int32) (a18 : Nat → Int32) (a19 : Int32) (a20 : Nat → Int32) (a21 : Int32) (a22 a23 a24 a25 : Nat → Int32) (a26 : Int32) (a27 a28 a29 a30 : Nat → Int32) (a31 : Int32) (a32 a33 : Nat → Int32) (a34 : Int32) (a35 a36 a37 a38 : Nat → Int32) (b0 : 0 ≤ a34) (b15 : a34 ≤ 15) (hB : ∀ j : Nat, j < a34.toNatClampNeg → vp_in (a35 j) 5) : Ci l G yX10_judge wsX10_judge (rmL 0) [.ref (ad 0)] (wX10 G ad a0 a1 a2 a3 a4 a5 a6 a7 a8 a9 a10 a11 a12 a13 a14 a15 a16 a17 a18 a19 a20 a21 a22 a23 a24 a25 a26 a27 a28 a29 a30 a31 a32 a33 a34 a35 a36 a37 a38) (rX10_judge a9 a34 a35 a36) (wX10 G ad a0 a1 a2 a3 a4 a5 a6 a7 a8 a9 a10 a11 a12 a13 a14 a15 a16 a17 a18 a19 a20 a21 a22 a23 a24 a25 a26 a27 a28 a29 a30 a31 a32 a33 a34 a35 a36 a37 a38) := by
  refine ci_start .int (by decide) rfl rfl (Nat.le_of_ble_eq_true rfl) ?_
  intro p e s m args below meth c A X
  have e34 := clampInt b0
  have hN34 := clampLe (n := 15) (b := 15) rfl b0 b15
  refine s_perm (lv2 := [(0, .ref (ad 0))]) [0] rfl ?_
  refine s_iconst X (pc := 0) (v := 0) dX10_judge_0 (by decide) ?_
  refine s_istore_n X (pc := 1) (i := 1) (lv2 := [(1, .int (0 : Int32)), (0, .ref (ad 0))]) dX10_judge_1 rfl (by decide) rfl ?_
  refine s_perm (lv2 := [(0, .ref (ad 0)), (1, .int (0 : Int32))]) [1, 0] rfl ?_
  have L2 : ∀ (n2 k2 : Nat), k2 + n2 = a34.toNatClampNeg → rX10_judge a9 a34 a35 a36 = aX10_judge_2 a9 a35 a36 n2 k2  → Sm p l e (rmL 0) s m args below meth c G A 2 0 0 (Qci below G A args s (rX10_judge a9 a34 a35 a36) (wX10 G ad a0 a1 a2 a3 a4 a5 a6 a7 a8 a9 a10 a11 a12 a13 a14 a15 a16 a17 a18 a19 a20 a21 a22 a23 a24 a25 a26 a27 a28 a29 a30 a31 a32 a33 a34 a35 a36 a37 a38)) 2 [(0, .ref (ad 0)), (1, .int (nI k2))] [] (wX10 G ad a0 a1 a2 a3 a4 a5 a6 a7 a8 a9 a10 a11 a12 a13 a14 a15 a16 a17 a18 a19 a20 a21 a22 a23 a24 a25 a26 a27 a28 a29 a30 a31 a32 a33 a34 a35 a36 a37 a38) := by
    intro n2
    induction n2 with
    | zero =>
      intro k2  hk2 hv2
      have hK2 : k2 = a34.toNatClampNeg := by omega
      have tk2 : (nI k2).toInt = ((k2 : Nat) : Int) := nI_toInt (by omega)
      have eN2 : (a34).toInt = ((a34.toNatClampNeg : Nat) : Int) := e34
      refine s_iload_n X (pc := 2) (x := nI k2) 1 dX10_judge_2 rfl ?_
      refine s_aload_n X (pc := 3) (x := (ad 0)) 0 dX10_judge_3 rfl ?_
      refine s_get X (pc := 4) (v := .int a34) iX10_judge_X10 0 rfl rfl 34 (by decide) kX10_judge_164 rfl rfl dX10_judge_4 ?_
      refine s_icmp_ge X (pc := 7) (tgt := 41) dX10_judge_7 (by decide) (fun c7 => ?_) (fun c7 => ?_)
      ·
        refine s_iconst X (pc := 41) (v := -1) dX10_judge_41 (by decide) ?_
        exact s_iret X (pc := 42) (v := (-1 : Int32)) dX10_judge_42 (Eq.symm (show rX10_judge a9 a34 a35 a36 = (-1 : Int32) from (hv2.trans (show aX10_judge_2 a9 a35 a36 0 k2  = (-1 : Int32) from by rw [aX10_judge_2])))) rfl
      ·
        exact absurd ((t_le eN2 tk2).mpr (by omega)) c7
    | succ n2 ih2 =>
      intro k2  hk2 hv2
      have hlt2 : k2 < a34.toNatClampNeg := by omega
      have tk2 : (nI k2).toInt = ((k2 : Nat) : Int) := nI_toInt (by omega)
      have eN2 : (a34).toInt = ((a34.toNatClampNeg : Nat) : Int) := e34
      refine s_iload_n X (pc := 2) (x := nI k2) 1 dX10_judge_2 rfl ?_
      refine s_aload_n X (pc := 3) (x := (ad 0)) 0 dX10_judge_3 rfl ?_
      refine s_get X (pc := 4) (v := .int a34) iX10_judge_X10 0 rfl rfl 34 (by decide) kX10_judge_164 rfl rfl dX10_judge_4 ?_
      refine s_icmp_ge X (pc := 7) (tgt := 41) dX10_judge_7 (by decide) (fun c7 => ?_) (fun c7 => ?_)
      ·
        exact absurd ((t_le eN2 tk2).mp c7) (by omega)
      ·
        refine s_aload_n X (pc := 10) (x := (ad 0)) 0 dX10_judge_10 rfl ?_
        refine s_get X (pc := 11) (v := .ref (ad 10)) iX10_judge_X10 0 rfl rfl 9 (by decide) kX10_judge_28 rfl rfl dX10_judge_11 ?_
        refine s_bipush X (pc := 14) (v := 12) dX10_judge_14 (by decide) ?_
        refine s_aload_n X (pc := 16) (x := (ad 0)) 0 dX10_judge_16 rfl ?_
        refine s_get X (pc := 17) (v := .ref (ad 36)) iX10_judge_X10 0 rfl rfl 35 (by decide) kX10_judge_75 rfl rfl dX10_judge_17 ?_
        refine s_iload_n X (pc := 20) (x := nI k2) 1 dX10_judge_20 rfl ?_
        refine s_iald X (pc := 21) (n := 15) (f := a35) 21 rfl (vp_in_nI (by omega) (by decide)) dX10_judge_21 ?_
        refine s_iadd X (pc := 22) dX10_judge_22 ?_
        refine s_iald X (pc := 23) (n := 23) (f := a9) 7 rfl (vin12 (by rw [nI_clamp (by omega)]; exact hB _ hlt2)) dX10_judge_23 ?_
        refine s_aload_n X (pc := 24) (x := (ad 0)) 0 dX10_judge_24 rfl ?_
        refine s_get X (pc := 25) (v := .ref (ad 37)) iX10_judge_X10 0 rfl rfl 36 (by decide) kX10_judge_78 rfl rfl dX10_judge_25 ?_
        refine s_iload_n X (pc := 28) (x := nI k2) 1 dX10_judge_28 rfl ?_
        refine s_iald X (pc := 29) (n := 15) (f := a36) 22 rfl (vp_in_nI (by omega) (by decide)) dX10_judge_29 ?_
        refine s_icmp_eq X (pc := 30) (tgt := 35) dX10_judge_30 (by decide) (fun c30 => ?_) (fun c30 => ?_)
        ·
          refine s_iinc X (pc := 35) (v := nI (k2 + 1)) (lv2 := [(1, .int (nI (k2 + 1))), (0, .ref (ad 0))]) 1 dX10_judge_35 rfl (nI_1 _) (by decide) rfl ?_
          refine s_goto X (pc := 38) (tgt := 2) dX10_judge_38 (by decide) ?_
          refine s_perm (lv2 := [(0, .ref (ad 0)), (1, .int (nI (k2 + 1)))]) [1, 0] rfl ?_
          exact ih2 (k2 + 1)  (by omega) (hv2.trans (show aX10_judge_2 a9 a35 a36 (n2 + 1) k2  = aX10_judge_2 a9 a35 a36 n2 (k2 + 1)  from by rw [aX10_judge_2]; exact (if_pos c30)))
        ·
          refine s_iload_n X (pc := 33) (x := nI k2) 1 dX10_judge_33 rfl ?_
          exact s_iret X (pc := 34) (v := nI k2) dX10_judge_34 (Eq.symm (show rX10_judge a9 a34 a35 a36 = nI k2 from (hv2.trans (show aX10_judge_2 a9 a35 a36 (n2 + 1) k2  = nI k2 from by rw [aX10_judge_2]; exact (if_neg c30))))) rfl
  exact L2 a34.toNatClampNeg 0  (Nat.zero_add _) rfl

theorem iX10_seed_X10 : ∀ z ∈ wsX100, z ∈ wsX10_seed := fun z h => List.mem_cons_of_mem _ (List.mem_append_right _ h)
theorem kX10_seed_222 : Cond.fieldLink RX10 222 "BathingCourtModel" (TX10 10).2.1 (TX10 10).2.2.1 ∈ wsX10_seed := List.mem_of_getElem? (i := 2) rfl
theorem kX10_seed_c101 : Jvm.Cond.constant RX10 101 (-1000000002) ∈ wsX10_seed := List.mem_of_getElem? (i := 1) rfl
def rX10_seed (a10 p0 : Int32) : Int32 := if 0 ≤ p0 then a10 else (-1000000002 : Int32)
def sX10_seed_10 (a10 p0 : Int32) : Int32 := if 0 ≤ p0 then p0 else a10
set_option maxRecDepth 100000 in
set_option maxHeartbeats 4000000 in
theorem c_X10_seed (l : Launch) (G : GT) (ad : Nat → Nat) (a0 : Int32) (a1 : Nat → Int32) (a2 : Int32) (a3 : Nat → Int32) (a4 : Int32) (a5 a6 a7 a8 a9 : Nat → Int32) (a10 : Int32) (a11 : Nat → Int32) (a12 a13 a14 a15 a16 a17 : Int32) (a18 : Nat → Int32) (a19 : Int32) (a20 : Nat → Int32) (a21 : Int32) (a22 a23 a24 a25 : Nat → Int32) (a26 : Int32) (a27 a28 a29 a30 : Nat → Int32) (a31 : Int32) (a32 a33 : Nat → Int32) (a34 : Int32) (a35 a36 a37 a38 : Nat → Int32) (p0 : Int32) : Ci l G yX10_seed wsX10_seed (rmL 0) [.ref (ad 0), .int p0] (wX10 G ad a0 a1 a2 a3 a4 a5 a6 a7 a8 a9 a10 a11 a12 a13 a14 a15 a16 a17 a18 a19 a20 a21 a22 a23 a24 a25 a26 a27 a28 a29 a30 a31 a32 a33 a34 a35 a36 a37 a38) (rX10_seed a10 p0) (wX10 G ad a0 a1 a2 a3 a4 a5 a6 a7 a8 a9 (sX10_seed_10 a10 p0) a11 a12 a13 a14 a15 a16 a17 a18 a19 a20 a21 a22 a23 a24 a25 a26 a27 a28 a29 a30 a31 a32 a33 a34 a35 a36 a37 a38) := by
  refine ci_start .int (by decide) rfl rfl (Nat.le_of_ble_eq_true rfl) ?_
  intro p e s m args below meth c A X
  refine s_perm (lv2 := [(0, .ref (ad 0)), (1, .int p0)]) [0, 1] rfl ?_
  refine s_iload_n X (pc := 0) (x := p0) 1 dX10_seed_0 rfl ?_
  refine s_if_ge X (pc := 1) (tgt := 7) dX10_seed_1 (by decide) (fun c1 => ?_) (fun c1 => ?_)
  ·
    refine s_aload_n X (pc := 7) (x := (ad 0)) 0 dX10_seed_7 rfl ?_
    refine s_get X (pc := 8) (v := .int a10) iX10_seed_X10 0 rfl rfl 10 (by decide) kX10_seed_222 rfl rfl dX10_seed_8 ?_
    refine s_istore_n X (pc := 11) (i := 2) (lv2 := [(2, .int a10), (0, .ref (ad 0)), (1, .int p0)]) dX10_seed_11 rfl (by decide) rfl ?_
    refine s_aload_n X (pc := 12) (x := (ad 0)) 1 dX10_seed_12 rfl ?_
    refine s_iload_n X (pc := 13) (x := p0) 2 dX10_seed_13 rfl ?_
    refine s_put X (pc := 14) (v := .int p0) (w2 := wX10 G ad a0 a1 a2 a3 a4 a5 a6 a7 a8 a9 p0 a11 a12 a13 a14 a15 a16 a17 a18 a19 a20 a21 a22 a23 a24 a25 a26 a27 a28 a29 a30 a31 a32 a33 a34 a35 a36 a37 a38) iX10_seed_X10 0 rfl rfl 10 (by decide) kX10_seed_222 rfl tyX10 tyX10_ok nmX10 rfl (ty := .int) (by decide +kernel) rfl rfl (Nat.le_of_ble_eq_true rfl) rfl dX10_seed_14 ?_
    refine s_iload_n X (pc := 17) (x := a10) 0 dX10_seed_17 rfl ?_
    exact s_iret X (pc := 18) (v := a10) dX10_seed_18 (Eq.symm (show rX10_seed a10 p0 = a10 from (by unfold rX10_seed; exact (if_pos c1)))) (by rw [show sX10_seed_10 a10 p0 = p0 from (by unfold sX10_seed_10; exact (if_pos c1))])
  ·
    refine s_ldc X (pc := 4) (v := -1000000002) kX10_seed_c101 dX10_seed_4 ?_
    exact s_iret X (pc := 6) (v := (-1000000002 : Int32)) dX10_seed_6 (Eq.symm (show rX10_seed a10 p0 = (-1000000002 : Int32) from (by unfold rX10_seed; exact (if_neg c1)))) (by rw [show sX10_seed_10 a10 p0 = a10 from (by unfold sX10_seed_10; exact (if_neg c1))])

theorem iX10_keep_X10 : ∀ z ∈ wsX100, z ∈ wsX10_keep := fun z h => List.mem_cons_of_mem _ (List.mem_append_right _ h)
theorem kX10_keep_81 : Cond.fieldLink RX10 81 "BathingCourtModel" (TX10 37).2.1 (TX10 37).2.2.1 ∈ wsX10_keep := List.mem_of_getElem? (i := 2) rfl
theorem kX10_keep_222 : Cond.fieldLink RX10 222 "BathingCourtModel" (TX10 10).2.1 (TX10 10).2.2.1 ∈ wsX10_keep := List.mem_of_getElem? (i := 4) rfl
theorem kX10_keep_84 : Cond.fieldLink RX10 84 "BathingCourtModel" (TX10 38).2.1 (TX10 38).2.2.1 ∈ wsX10_keep := List.mem_of_getElem? (i := 5) rfl
theorem kX10_keep_167 : Cond.fieldLink RX10 167 "BathingCourtModel" (TX10 26).2.1 (TX10 26).2.2.1 ∈ wsX10_keep := List.mem_of_getElem? (i := 6) rfl
theorem kX10_keep_28 : Cond.fieldLink RX10 28 "BathingCourtModel" (TX10 9).2.1 (TX10 9).2.2.1 ∈ wsX10_keep := List.mem_of_getElem? (i := 3) rfl
theorem kX10_keep_c190 : Jvm.Cond.constant RX10 190 (-1000000001) ∈ wsX10_keep := List.mem_of_getElem? (i := 1) rfl
def aX10_keep_15 (a9 a37 : Nat → Int32) (p0 : Int32) : Nat → (Nat → Int32)
  | 0 => a37
  | k15 + 1 => upd (aX10_keep_15 a9 a37 p0 k15) (((24 : Int32) * p0) + (nI k15)).toNatClampNeg (a9 (nI k15).toNatClampNeg)
def rX10_keep (p0 : Int32) : Int32 := if (rX10_in p0.toInt64 (0 : Int64) (1 : Int64)) = 0 then (-1000000001 : Int32) else (1 : Int32)
def sX10_keep_26 (a26 p0 : Int32) : Int32 := if (rX10_in p0.toInt64 (0 : Int64) (1 : Int64)) = 0 then a26 else (0 : Int32)
def sX10_keep_37 (a9 : Nat → Int32) (a10 : Int32) (a37 : Nat → Int32) (p0 : Int32) : Nat → Int32 := if (rX10_in p0.toInt64 (0 : Int64) (1 : Int64)) = 0 then a37 else (upd (aX10_keep_15 a9 a37 p0 23) (((24 : Int32) * p0) + (23 : Int32)).toNatClampNeg a10)
def sX10_keep_38 (a38 : Nat → Int32) (p0 : Int32) : Nat → Int32 := if (rX10_in p0.toInt64 (0 : Int64) (1 : Int64)) = 0 then a38 else (upd a38 p0.toNatClampNeg (1 : Int32))
set_option maxRecDepth 100000 in
set_option maxHeartbeats 4000000 in
theorem c_X10_keep (l : Launch) (G : GT) (ad : Nat → Nat) (a0 : Int32) (a1 : Nat → Int32) (a2 : Int32) (a3 : Nat → Int32) (a4 : Int32) (a5 a6 a7 a8 a9 : Nat → Int32) (a10 : Int32) (a11 : Nat → Int32) (a12 a13 a14 a15 a16 a17 : Int32) (a18 : Nat → Int32) (a19 : Int32) (a20 : Nat → Int32) (a21 : Int32) (a22 a23 a24 a25 : Nat → Int32) (a26 : Int32) (a27 a28 a29 a30 : Nat → Int32) (a31 : Int32) (a32 a33 : Nat → Int32) (a34 : Int32) (a35 a36 a37 a38 : Nat → Int32) (p0 : Int32) : Ci l G yX10_keep wsX10_keep (rmL 1) [.ref (ad 0), .int p0] (wX10 G ad a0 a1 a2 a3 a4 a5 a6 a7 a8 a9 a10 a11 a12 a13 a14 a15 a16 a17 a18 a19 a20 a21 a22 a23 a24 a25 a26 a27 a28 a29 a30 a31 a32 a33 a34 a35 a36 a37 a38) (rX10_keep p0) (wX10 G ad a0 a1 a2 a3 a4 a5 a6 a7 a8 a9 a10 a11 a12 a13 a14 a15 a16 a17 a18 a19 a20 a21 a22 a23 a24 a25 (sX10_keep_26 a26 p0) a27 a28 a29 a30 a31 a32 a33 a34 a35 a36 (sX10_keep_37 a9 a10 a37 p0) (sX10_keep_38 a38 p0)) := by
  refine ci_start .int (by decide) rfl rfl (Nat.le_of_ble_eq_true rfl) ?_
  intro p e s m args below meth c A X
  refine s_perm (lv2 := [(0, .ref (ad 0)), (1, .int p0)]) [0, 1] rfl ?_
  refine s_iload_n X (pc := 0) (x := p0) 1 dX10_keep_0 rfl ?_
  refine s_i2l X (pc := 1) dX10_keep_1 ?_
  refine s_lconst X (pc := 2) (v := 0) dX10_keep_2 (by decide) ?_
  refine s_lconst X (pc := 3) (v := 1) dX10_keep_3 (by decide) ?_
  refine s_callSiN X (pc := 4) (r := rX10_in p0.toInt64 (0 : Int64) (1 : Int64)) (n := 3) (st := []) (As := [.long p0.toInt64, .long (0 : Int64), .long (1 : Int64)]) 0 (c_X10_in l G p0.toInt64 (0 : Int64) (1 : Int64)) gX10_keep_X10_in rfl (by decide +kernel) ⟨Nat.le_of_ble_eq_true rfl, Nat.le_of_ble_eq_true rfl⟩ rfl rfl (Nat.le_of_ble_eq_true rfl) (Nat.zero_le _) (Nat.zero_le _) dX10_keep_4 ?_
  refine s_if_ne X (pc := 7) (tgt := 13) dX10_keep_7 (by decide) (fun c7 => ?_) (fun c7 => ?_)
  ·
    have q7 := inI 0 1 rfl rfl c7
    refine s_iconst X (pc := 13) (v := 0) dX10_keep_13 (by decide) ?_
    refine s_istore_n X (pc := 14) (i := 2) (lv2 := [(2, .int (0 : Int32)), (0, .ref (ad 0)), (1, .int p0)]) dX10_keep_14 rfl (by decide) rfl ?_
    refine s_perm (lv2 := [(0, .ref (ad 0)), (1, .int p0), (2, .int (0 : Int32))]) [1, 2, 0] rfl ?_
    have L15 : ∀ (n15 k15 : Nat), k15 + n15 = 23 → Sm p l e (rmL 1) s m args below meth c G A 3 0 0 (Qci below G A args s (rX10_keep p0) (wX10 G ad a0 a1 a2 a3 a4 a5 a6 a7 a8 a9 a10 a11 a12 a13 a14 a15 a16 a17 a18 a19 a20 a21 a22 a23 a24 a25 (sX10_keep_26 a26 p0) a27 a28 a29 a30 a31 a32 a33 a34 a35 a36 (sX10_keep_37 a9 a10 a37 p0) (sX10_keep_38 a38 p0))) 15 [(0, .ref (ad 0)), (1, .int p0), (2, .int (nI k15))] [] (wX10 G ad a0 a1 a2 a3 a4 a5 a6 a7 a8 a9 a10 a11 a12 a13 a14 a15 a16 a17 a18 a19 a20 a21 a22 a23 a24 a25 a26 a27 a28 a29 a30 a31 a32 a33 a34 a35 a36 (aX10_keep_15 a9 a37 p0 k15) a38) := by
      intro n15
      induction n15 with
      | zero =>
        intro k15 hk15
        have hK15 : k15 = 23 := by omega
        rw [hK15]
        have tk15 : (nI 23).toInt = ((23 : Nat) : Int) := nI_toInt (by omega)
        have eN15 : ((23 : Int32)).toInt = ((23 : Nat) : Int) := rfl
        refine s_iload_n X (pc := 15) (x := nI 23) 2 dX10_keep_15 rfl ?_
        refine s_bipush X (pc := 16) (v := 23) dX10_keep_16 (by decide) ?_
        refine s_icmp_ge X (pc := 18) (tgt := 44) dX10_keep_18 (by decide) (fun c18 => ?_) (fun c18 => ?_)
        ·
          refine s_aload_n X (pc := 44) (x := (ad 0)) 0 dX10_keep_44 rfl ?_
          refine s_get X (pc := 45) (v := .ref (ad 38)) iX10_keep_X10 0 rfl rfl 37 (by decide) kX10_keep_81 rfl rfl dX10_keep_45 ?_
          refine s_bipush X (pc := 48) (v := 24) dX10_keep_48 (by decide) ?_
          refine s_iload_n X (pc := 50) (x := p0) 1 dX10_keep_50 rfl ?_
          refine s_imul X (pc := 51) dX10_keep_51 ?_
          refine s_bipush X (pc := 52) (v := 23) dX10_keep_52 (by decide) ?_
          refine s_iadd X (pc := 54) dX10_keep_54 ?_
          refine s_aload_n X (pc := 55) (x := (ad 0)) 0 dX10_keep_55 rfl ?_
          refine s_get X (pc := 56) (v := .int a10) iX10_keep_X10 0 rfl rfl 10 (by decide) kX10_keep_222 rfl rfl dX10_keep_56 ?_
          refine s_iast X (pc := 59) (n := 48) (f := (aX10_keep_15 a9 a37 p0 23)) (w2 := wX10 G ad a0 a1 a2 a3 a4 a5 a6 a7 a8 a9 a10 a11 a12 a13 a14 a15 a16 a17 a18 a19 a20 a21 a22 a23 a24 a25 a26 a27 a28 a29 a30 a31 a32 a33 a34 a35 a36 (upd (aX10_keep_15 a9 a37 p0 23) (((24 : Int32) * p0) + (23 : Int32)).toNatClampNeg a10) a38) 23 rfl (m24v (k := 23) q7.1 q7.2 (by decide)) rfl dX10_keep_59 ?_
          refine s_aload_n X (pc := 60) (x := (ad 0)) 0 dX10_keep_60 rfl ?_
          refine s_get X (pc := 61) (v := .ref (ad 39)) iX10_keep_X10 0 rfl rfl 38 (by decide) kX10_keep_84 rfl rfl dX10_keep_61 ?_
          refine s_iload_n X (pc := 64) (x := p0) 1 dX10_keep_64 rfl ?_
          refine s_iconst X (pc := 65) (v := 1) dX10_keep_65 (by decide) ?_
          refine s_zast X (pc := 66) (n := 2) (f := a38) (w2 := wX10 G ad a0 a1 a2 a3 a4 a5 a6 a7 a8 a9 a10 a11 a12 a13 a14 a15 a16 a17 a18 a19 a20 a21 a22 a23 a24 a25 a26 a27 a28 a29 a30 a31 a32 a33 a34 a35 a36 (upd (aX10_keep_15 a9 a37 p0 23) (((24 : Int32) * p0) + (23 : Int32)).toNatClampNeg a10) (upd a38 p0.toNatClampNeg (1 : Int32))) 24 rfl (vin (b := 2) rfl q7.1 (by grind)) (Or.inr rfl) rfl dX10_keep_66 ?_
          refine s_aload_n X (pc := 67) (x := (ad 0)) 0 dX10_keep_67 rfl ?_
          refine s_iconst X (pc := 68) (v := 0) dX10_keep_68 (by decide) ?_
          refine s_put X (pc := 69) (v := .int (0 : Int32)) (w2 := wX10 G ad a0 a1 a2 a3 a4 a5 a6 a7 a8 a9 a10 a11 a12 a13 a14 a15 a16 a17 a18 a19 a20 a21 a22 a23 a24 a25 (0 : Int32) a27 a28 a29 a30 a31 a32 a33 a34 a35 a36 (upd (aX10_keep_15 a9 a37 p0 23) (((24 : Int32) * p0) + (23 : Int32)).toNatClampNeg a10) (upd a38 p0.toNatClampNeg (1 : Int32))) iX10_keep_X10 0 rfl rfl 26 (by decide) kX10_keep_167 rfl tyX10 tyX10_ok nmX10 rfl (ty := .int) (by decide +kernel) rfl rfl (Nat.le_of_ble_eq_true rfl) rfl dX10_keep_69 ?_
          refine s_iconst X (pc := 72) (v := 1) dX10_keep_72 (by decide) ?_
          exact s_iret X (pc := 73) (v := (1 : Int32)) dX10_keep_73 (Eq.symm (show rX10_keep p0 = (1 : Int32) from (by unfold rX10_keep; exact (if_neg c7)))) (by rw [show sX10_keep_26 a26 p0 = (0 : Int32) from (by unfold sX10_keep_26; exact (if_neg c7)), show sX10_keep_37 a9 a10 a37 p0 = upd (aX10_keep_15 a9 a37 p0 23) (((24 : Int32) * p0) + (23 : Int32)).toNatClampNeg a10 from (by unfold sX10_keep_37; exact (if_neg c7)), show sX10_keep_38 a38 p0 = upd a38 p0.toNatClampNeg (1 : Int32) from (by unfold sX10_keep_38; exact (if_neg c7))])
        ·
          exact absurd ((t_le eN15 tk15).mpr (by omega)) c18
      | succ n15 ih15 =>
        intro k15 hk15
        have hlt15 : k15 < 23 := by omega
        have tk15 : (nI k15).toInt = ((k15 : Nat) : Int) := nI_toInt (by omega)
        have eN15 : ((23 : Int32)).toInt = ((23 : Nat) : Int) := rfl
        refine s_iload_n X (pc := 15) (x := nI k15) 2 dX10_keep_15 rfl ?_
        refine s_bipush X (pc := 16) (v := 23) dX10_keep_16 (by decide) ?_
        refine s_icmp_ge X (pc := 18) (tgt := 44) dX10_keep_18 (by decide) (fun c18 => ?_) (fun c18 => ?_)
        ·
          exact absurd ((t_le eN15 tk15).mp c18) (by omega)
        ·
          refine s_aload_n X (pc := 21) (x := (ad 0)) 0 dX10_keep_21 rfl ?_
          refine s_get X (pc := 22) (v := .ref (ad 38)) iX10_keep_X10 0 rfl rfl 37 (by decide) kX10_keep_81 rfl rfl dX10_keep_22 ?_
          refine s_bipush X (pc := 25) (v := 24) dX10_keep_25 (by decide) ?_
          refine s_iload_n X (pc := 27) (x := p0) 1 dX10_keep_27 rfl ?_
          refine s_imul X (pc := 28) dX10_keep_28 ?_
          refine s_iload_n X (pc := 29) (x := nI k15) 2 dX10_keep_29 rfl ?_
          refine s_iadd X (pc := 30) dX10_keep_30 ?_
          refine s_aload_n X (pc := 31) (x := (ad 0)) 0 dX10_keep_31 rfl ?_
          refine s_get X (pc := 32) (v := .ref (ad 10)) iX10_keep_X10 0 rfl rfl 9 (by decide) kX10_keep_28 rfl rfl dX10_keep_32 ?_
          refine s_iload_n X (pc := 35) (x := nI k15) 2 dX10_keep_35 rfl ?_
          refine s_iald X (pc := 36) (n := 23) (f := a9) 7 rfl (vp_in_nI (by omega) (by decide)) dX10_keep_36 ?_
          refine s_iast X (pc := 37) (n := 48) (f := (aX10_keep_15 a9 a37 p0 k15)) (w2 := wX10 G ad a0 a1 a2 a3 a4 a5 a6 a7 a8 a9 a10 a11 a12 a13 a14 a15 a16 a17 a18 a19 a20 a21 a22 a23 a24 a25 a26 a27 a28 a29 a30 a31 a32 a33 a34 a35 a36 (upd (aX10_keep_15 a9 a37 p0 k15) (((24 : Int32) * p0) + (nI k15)).toNatClampNeg (a9 (nI k15).toNatClampNeg)) a38) 23 rfl (m24v q7.1 q7.2 (by omega)) rfl dX10_keep_37 ?_
          refine s_iinc X (pc := 38) (v := nI (k15 + 1)) (lv2 := [(2, .int (nI (k15 + 1))), (0, .ref (ad 0)), (1, .int p0)]) 2 dX10_keep_38 rfl (nI_1 _) (by decide) rfl ?_
          refine s_goto X (pc := 41) (tgt := 15) dX10_keep_41 (by decide) ?_
          refine s_perm (lv2 := [(0, .ref (ad 0)), (1, .int p0), (2, .int (nI (k15 + 1)))]) [1, 2, 0] rfl ?_
          have hb15 : (aX10_keep_15 a9 a37 p0 (k15 + 1)) = upd (aX10_keep_15 a9 a37 p0 k15) (((24 : Int32) * p0) + (nI k15)).toNatClampNeg (a9 (nI k15).toNatClampNeg) := rfl
          refine s_cast (lv2 := [(0, .ref (ad 0)), (1, .int p0), (2, .int (nI (k15 + 1)))]) (w2 := wX10 G ad a0 a1 a2 a3 a4 a5 a6 a7 a8 a9 a10 a11 a12 a13 a14 a15 a16 a17 a18 a19 a20 a21 a22 a23 a24 a25 a26 a27 a28 a29 a30 a31 a32 a33 a34 a35 a36 (aX10_keep_15 a9 a37 p0 (k15 + 1)) a38) (by first | (rw [hb15]; done) | rfl) (by first | (rw [hb15]; done) | rfl) ?_
          exact ih15 (k15 + 1) (by omega)
    exact L15 23 0 (Nat.zero_add _)
  ·
    refine s_ldc X (pc := 10) (v := -1000000001) kX10_keep_c190 dX10_keep_10 ?_
    exact s_iret X (pc := 12) (v := (-1000000001 : Int32)) dX10_keep_12 (Eq.symm (show rX10_keep p0 = (-1000000001 : Int32) from (by unfold rX10_keep; exact (if_pos c7)))) (by rw [show sX10_keep_26 a26 p0 = a26 from (by unfold sX10_keep_26; exact (if_pos c7)), show sX10_keep_37 a9 a10 a37 p0 = a37 from (by unfold sX10_keep_37; exact (if_pos c7)), show sX10_keep_38 a38 p0 = a38 from (by unfold sX10_keep_38; exact (if_pos c7))])

theorem iX10_goBack_X10 : ∀ z ∈ wsX100, z ∈ wsX10_goBack := fun z h => List.mem_cons_of_mem _ (List.mem_append_right _ h)
theorem kX10_goBack_84 : Cond.fieldLink RX10 84 "BathingCourtModel" (TX10 38).2.1 (TX10 38).2.2.1 ∈ wsX10_goBack := List.mem_of_getElem? (i := 2) rfl
theorem kX10_goBack_81 : Cond.fieldLink RX10 81 "BathingCourtModel" (TX10 37).2.1 (TX10 37).2.2.1 ∈ wsX10_goBack := List.mem_of_getElem? (i := 5) rfl
theorem kX10_goBack_222 : Cond.fieldLink RX10 222 "BathingCourtModel" (TX10 10).2.1 (TX10 10).2.2.1 ∈ wsX10_goBack := List.mem_of_getElem? (i := 6) rfl
theorem kX10_goBack_167 : Cond.fieldLink RX10 167 "BathingCourtModel" (TX10 26).2.1 (TX10 26).2.2.1 ∈ wsX10_goBack := List.mem_of_getElem? (i := 7) rfl
theorem kX10_goBack_28 : Cond.fieldLink RX10 28 "BathingCourtModel" (TX10 9).2.1 (TX10 9).2.2.1 ∈ wsX10_goBack := List.mem_of_getElem? (i := 4) rfl
theorem kX10_goBack_c183 : Jvm.Cond.constant RX10 183 (-1000000003) ∈ wsX10_goBack := List.mem_of_getElem? (i := 3) rfl
theorem kX10_goBack_c190 : Jvm.Cond.constant RX10 190 (-1000000001) ∈ wsX10_goBack := List.mem_of_getElem? (i := 1) rfl
def aX10_goBack_27 (a9 a37 : Nat → Int32) (p0 : Int32) : Nat → (Nat → Int32)
  | 0 => a9
  | k27 + 1 => upd (aX10_goBack_27 a9 a37 p0 k27) (nI k27).toNatClampNeg (a37 (((24 : Int32) * p0) + (nI k27)).toNatClampNeg)
def rX10_goBack (a38 : Nat → Int32) (p0 : Int32) : Int32 := if (rX10_in p0.toInt64 (0 : Int64) (1 : Int64)) = 0 then (-1000000001 : Int32) else (if (a38 p0.toNatClampNeg) = 0 then (-1000000003 : Int32) else (1 : Int32))
def sX10_goBack_9 (a9 a37 a38 : Nat → Int32) (p0 : Int32) : Nat → Int32 := if (rX10_in p0.toInt64 (0 : Int64) (1 : Int64)) = 0 then a9 else (if (a38 p0.toNatClampNeg) = 0 then a9 else (aX10_goBack_27 a9 a37 p0 23))
def sX10_goBack_10 (a10 : Int32) (a37 a38 : Nat → Int32) (p0 : Int32) : Int32 := if (rX10_in p0.toInt64 (0 : Int64) (1 : Int64)) = 0 then a10 else (if (a38 p0.toNatClampNeg) = 0 then a10 else (a37 (((24 : Int32) * p0) + (23 : Int32)).toNatClampNeg))
def sX10_goBack_26 (a26 : Int32) (a38 : Nat → Int32) (p0 : Int32) : Int32 := if (rX10_in p0.toInt64 (0 : Int64) (1 : Int64)) = 0 then a26 else (if (a38 p0.toNatClampNeg) = 0 then a26 else (0 : Int32))
set_option maxRecDepth 100000 in
set_option maxHeartbeats 4000000 in
theorem c_X10_goBack (l : Launch) (G : GT) (ad : Nat → Nat) (a0 : Int32) (a1 : Nat → Int32) (a2 : Int32) (a3 : Nat → Int32) (a4 : Int32) (a5 a6 a7 a8 a9 : Nat → Int32) (a10 : Int32) (a11 : Nat → Int32) (a12 a13 a14 a15 a16 a17 : Int32) (a18 : Nat → Int32) (a19 : Int32) (a20 : Nat → Int32) (a21 : Int32) (a22 a23 a24 a25 : Nat → Int32) (a26 : Int32) (a27 a28 a29 a30 : Nat → Int32) (a31 : Int32) (a32 a33 : Nat → Int32) (a34 : Int32) (a35 a36 a37 a38 : Nat → Int32) (p0 : Int32) : Ci l G yX10_goBack wsX10_goBack (rmL 1) [.ref (ad 0), .int p0] (wX10 G ad a0 a1 a2 a3 a4 a5 a6 a7 a8 a9 a10 a11 a12 a13 a14 a15 a16 a17 a18 a19 a20 a21 a22 a23 a24 a25 a26 a27 a28 a29 a30 a31 a32 a33 a34 a35 a36 a37 a38) (rX10_goBack a38 p0) (wX10 G ad a0 a1 a2 a3 a4 a5 a6 a7 a8 (sX10_goBack_9 a9 a37 a38 p0) (sX10_goBack_10 a10 a37 a38 p0) a11 a12 a13 a14 a15 a16 a17 a18 a19 a20 a21 a22 a23 a24 a25 (sX10_goBack_26 a26 a38 p0) a27 a28 a29 a30 a31 a32 a33 a34 a35 a36 a37 a38) := by
  refine ci_start .int (by decide) rfl rfl (Nat.le_of_ble_eq_true rfl) ?_
  intro p e s m args below meth c A X
  refine s_perm (lv2 := [(0, .ref (ad 0)), (1, .int p0)]) [0, 1] rfl ?_
  refine s_iload_n X (pc := 0) (x := p0) 1 dX10_goBack_0 rfl ?_
  refine s_i2l X (pc := 1) dX10_goBack_1 ?_
  refine s_lconst X (pc := 2) (v := 0) dX10_goBack_2 (by decide) ?_
  refine s_lconst X (pc := 3) (v := 1) dX10_goBack_3 (by decide) ?_
  refine s_callSiN X (pc := 4) (r := rX10_in p0.toInt64 (0 : Int64) (1 : Int64)) (n := 3) (st := []) (As := [.long p0.toInt64, .long (0 : Int64), .long (1 : Int64)]) 0 (c_X10_in l G p0.toInt64 (0 : Int64) (1 : Int64)) gX10_goBack_X10_in rfl (by decide +kernel) ⟨Nat.le_of_ble_eq_true rfl, Nat.le_of_ble_eq_true rfl⟩ rfl rfl (Nat.le_of_ble_eq_true rfl) (Nat.zero_le _) (Nat.zero_le _) dX10_goBack_4 ?_
  refine s_if_ne X (pc := 7) (tgt := 13) dX10_goBack_7 (by decide) (fun c7 => ?_) (fun c7 => ?_)
  ·
    have q7 := inI 0 1 rfl rfl c7
    refine s_aload_n X (pc := 13) (x := (ad 0)) 0 dX10_goBack_13 rfl ?_
    refine s_get X (pc := 14) (v := .ref (ad 39)) iX10_goBack_X10 0 rfl rfl 38 (by decide) kX10_goBack_84 rfl rfl dX10_goBack_14 ?_
    refine s_iload_n X (pc := 17) (x := p0) 1 dX10_goBack_17 rfl ?_
    refine s_zald X (pc := 18) (n := 2) (f := a38) 24 rfl (vin (b := 2) rfl q7.1 (by grind)) dX10_goBack_18 ?_
    refine s_if_ne X (pc := 19) (tgt := 25) dX10_goBack_19 (by decide) (fun c19 => ?_) (fun c19 => ?_)
    ·
      refine s_iconst X (pc := 25) (v := 0) dX10_goBack_25 (by decide) ?_
      refine s_istore_n X (pc := 26) (i := 2) (lv2 := [(2, .int (0 : Int32)), (0, .ref (ad 0)), (1, .int p0)]) dX10_goBack_26 rfl (by decide) rfl ?_
      refine s_perm (lv2 := [(0, .ref (ad 0)), (1, .int p0), (2, .int (0 : Int32))]) [1, 2, 0] rfl ?_
      have L27 : ∀ (n27 k27 : Nat), k27 + n27 = 23 → Sm p l e (rmL 1) s m args below meth c G A 3 0 0 (Qci below G A args s (rX10_goBack a38 p0) (wX10 G ad a0 a1 a2 a3 a4 a5 a6 a7 a8 (sX10_goBack_9 a9 a37 a38 p0) (sX10_goBack_10 a10 a37 a38 p0) a11 a12 a13 a14 a15 a16 a17 a18 a19 a20 a21 a22 a23 a24 a25 (sX10_goBack_26 a26 a38 p0) a27 a28 a29 a30 a31 a32 a33 a34 a35 a36 a37 a38)) 27 [(0, .ref (ad 0)), (1, .int p0), (2, .int (nI k27))] [] (wX10 G ad a0 a1 a2 a3 a4 a5 a6 a7 a8 (aX10_goBack_27 a9 a37 p0 k27) a10 a11 a12 a13 a14 a15 a16 a17 a18 a19 a20 a21 a22 a23 a24 a25 a26 a27 a28 a29 a30 a31 a32 a33 a34 a35 a36 a37 a38) := by
        intro n27
        induction n27 with
        | zero =>
          intro k27 hk27
          have hK27 : k27 = 23 := by omega
          rw [hK27]
          have tk27 : (nI 23).toInt = ((23 : Nat) : Int) := nI_toInt (by omega)
          have eN27 : ((23 : Int32)).toInt = ((23 : Nat) : Int) := rfl
          refine s_iload_n X (pc := 27) (x := nI 23) 2 dX10_goBack_27 rfl ?_
          refine s_bipush X (pc := 28) (v := 23) dX10_goBack_28 (by decide) ?_
          refine s_icmp_ge X (pc := 30) (tgt := 56) dX10_goBack_30 (by decide) (fun c30 => ?_) (fun c30 => ?_)
          ·
            refine s_aload_n X (pc := 56) (x := (ad 0)) 0 dX10_goBack_56 rfl ?_
            refine s_aload_n X (pc := 57) (x := (ad 0)) 0 dX10_goBack_57 rfl ?_
            refine s_get X (pc := 58) (v := .ref (ad 38)) iX10_goBack_X10 0 rfl rfl 37 (by decide) kX10_goBack_81 rfl rfl dX10_goBack_58 ?_
            refine s_bipush X (pc := 61) (v := 24) dX10_goBack_61 (by decide) ?_
            refine s_iload_n X (pc := 63) (x := p0) 1 dX10_goBack_63 rfl ?_
            refine s_imul X (pc := 64) dX10_goBack_64 ?_
            refine s_bipush X (pc := 65) (v := 23) dX10_goBack_65 (by decide) ?_
            refine s_iadd X (pc := 67) dX10_goBack_67 ?_
            refine s_iald X (pc := 68) (n := 48) (f := a37) 23 rfl (m24v (k := 23) q7.1 q7.2 (by decide)) dX10_goBack_68 ?_
            refine s_put X (pc := 69) (v := .int (a37 (((24 : Int32) * p0) + (23 : Int32)).toNatClampNeg)) (w2 := wX10 G ad a0 a1 a2 a3 a4 a5 a6 a7 a8 (aX10_goBack_27 a9 a37 p0 23) (a37 (((24 : Int32) * p0) + (23 : Int32)).toNatClampNeg) a11 a12 a13 a14 a15 a16 a17 a18 a19 a20 a21 a22 a23 a24 a25 a26 a27 a28 a29 a30 a31 a32 a33 a34 a35 a36 a37 a38) iX10_goBack_X10 0 rfl rfl 10 (by decide) kX10_goBack_222 rfl tyX10 tyX10_ok nmX10 rfl (ty := .int) (by decide +kernel) rfl rfl (Nat.le_of_ble_eq_true rfl) rfl dX10_goBack_69 ?_
            refine s_aload_n X (pc := 72) (x := (ad 0)) 0 dX10_goBack_72 rfl ?_
            refine s_iconst X (pc := 73) (v := 0) dX10_goBack_73 (by decide) ?_
            refine s_put X (pc := 74) (v := .int (0 : Int32)) (w2 := wX10 G ad a0 a1 a2 a3 a4 a5 a6 a7 a8 (aX10_goBack_27 a9 a37 p0 23) (a37 (((24 : Int32) * p0) + (23 : Int32)).toNatClampNeg) a11 a12 a13 a14 a15 a16 a17 a18 a19 a20 a21 a22 a23 a24 a25 (0 : Int32) a27 a28 a29 a30 a31 a32 a33 a34 a35 a36 a37 a38) iX10_goBack_X10 0 rfl rfl 26 (by decide) kX10_goBack_167 rfl tyX10 tyX10_ok nmX10 rfl (ty := .int) (by decide +kernel) rfl rfl (Nat.le_of_ble_eq_true rfl) rfl dX10_goBack_74 ?_
            refine s_iconst X (pc := 77) (v := 1) dX10_goBack_77 (by decide) ?_
            exact s_iret X (pc := 78) (v := (1 : Int32)) dX10_goBack_78 (Eq.symm (show rX10_goBack a38 p0 = (1 : Int32) from (by unfold rX10_goBack; exact ((if_neg c7).trans (if_neg c19))))) (by rw [show sX10_goBack_9 a9 a37 a38 p0 = (aX10_goBack_27 a9 a37 p0 23) from (by unfold sX10_goBack_9; exact ((if_neg c7).trans (if_neg c19))), show sX10_goBack_10 a10 a37 a38 p0 = a37 (((24 : Int32) * p0) + (23 : Int32)).toNatClampNeg from (by unfold sX10_goBack_10; exact ((if_neg c7).trans (if_neg c19))), show sX10_goBack_26 a26 a38 p0 = (0 : Int32) from (by unfold sX10_goBack_26; exact ((if_neg c7).trans (if_neg c19)))])
          ·
            exact absurd ((t_le eN27 tk27).mpr (by omega)) c30
        | succ n27 ih27 =>
          intro k27 hk27
          have hlt27 : k27 < 23 := by omega
          have tk27 : (nI k27).toInt = ((k27 : Nat) : Int) := nI_toInt (by omega)
          have eN27 : ((23 : Int32)).toInt = ((23 : Nat) : Int) := rfl
          refine s_iload_n X (pc := 27) (x := nI k27) 2 dX10_goBack_27 rfl ?_
          refine s_bipush X (pc := 28) (v := 23) dX10_goBack_28 (by decide) ?_
          refine s_icmp_ge X (pc := 30) (tgt := 56) dX10_goBack_30 (by decide) (fun c30 => ?_) (fun c30 => ?_)
          ·
            exact absurd ((t_le eN27 tk27).mp c30) (by omega)
          ·
            refine s_aload_n X (pc := 33) (x := (ad 0)) 0 dX10_goBack_33 rfl ?_
            refine s_get X (pc := 34) (v := .ref (ad 10)) iX10_goBack_X10 0 rfl rfl 9 (by decide) kX10_goBack_28 rfl rfl dX10_goBack_34 ?_
            refine s_iload_n X (pc := 37) (x := nI k27) 2 dX10_goBack_37 rfl ?_
            refine s_aload_n X (pc := 38) (x := (ad 0)) 0 dX10_goBack_38 rfl ?_
            refine s_get X (pc := 39) (v := .ref (ad 38)) iX10_goBack_X10 0 rfl rfl 37 (by decide) kX10_goBack_81 rfl rfl dX10_goBack_39 ?_
            refine s_bipush X (pc := 42) (v := 24) dX10_goBack_42 (by decide) ?_
            refine s_iload_n X (pc := 44) (x := p0) 1 dX10_goBack_44 rfl ?_
            refine s_imul X (pc := 45) dX10_goBack_45 ?_
            refine s_iload_n X (pc := 46) (x := nI k27) 2 dX10_goBack_46 rfl ?_
            refine s_iadd X (pc := 47) dX10_goBack_47 ?_
            refine s_iald X (pc := 48) (n := 48) (f := a37) 23 rfl (m24v q7.1 q7.2 (by omega)) dX10_goBack_48 ?_
            refine s_iast X (pc := 49) (n := 23) (f := (aX10_goBack_27 a9 a37 p0 k27)) (w2 := wX10 G ad a0 a1 a2 a3 a4 a5 a6 a7 a8 (upd (aX10_goBack_27 a9 a37 p0 k27) (nI k27).toNatClampNeg (a37 (((24 : Int32) * p0) + (nI k27)).toNatClampNeg)) a10 a11 a12 a13 a14 a15 a16 a17 a18 a19 a20 a21 a22 a23 a24 a25 a26 a27 a28 a29 a30 a31 a32 a33 a34 a35 a36 a37 a38) 7 rfl (vp_in_nI (by omega) (by decide)) rfl dX10_goBack_49 ?_
            refine s_iinc X (pc := 50) (v := nI (k27 + 1)) (lv2 := [(2, .int (nI (k27 + 1))), (0, .ref (ad 0)), (1, .int p0)]) 2 dX10_goBack_50 rfl (nI_1 _) (by decide) rfl ?_
            refine s_goto X (pc := 53) (tgt := 27) dX10_goBack_53 (by decide) ?_
            refine s_perm (lv2 := [(0, .ref (ad 0)), (1, .int p0), (2, .int (nI (k27 + 1)))]) [1, 2, 0] rfl ?_
            have hb27 : (aX10_goBack_27 a9 a37 p0 (k27 + 1)) = upd (aX10_goBack_27 a9 a37 p0 k27) (nI k27).toNatClampNeg (a37 (((24 : Int32) * p0) + (nI k27)).toNatClampNeg) := rfl
            refine s_cast (lv2 := [(0, .ref (ad 0)), (1, .int p0), (2, .int (nI (k27 + 1)))]) (w2 := wX10 G ad a0 a1 a2 a3 a4 a5 a6 a7 a8 (aX10_goBack_27 a9 a37 p0 (k27 + 1)) a10 a11 a12 a13 a14 a15 a16 a17 a18 a19 a20 a21 a22 a23 a24 a25 a26 a27 a28 a29 a30 a31 a32 a33 a34 a35 a36 a37 a38) (by first | (rw [hb27]; done) | rfl) (by first | (rw [hb27]; done) | rfl) ?_
            exact ih27 (k27 + 1) (by omega)
      exact L27 23 0 (Nat.zero_add _)
    ·
      refine s_ldc X (pc := 22) (v := -1000000003) kX10_goBack_c183 dX10_goBack_22 ?_
      exact s_iret X (pc := 24) (v := (-1000000003 : Int32)) dX10_goBack_24 (Eq.symm (show rX10_goBack a38 p0 = (-1000000003 : Int32) from (by unfold rX10_goBack; exact ((if_neg c7).trans (if_pos c19))))) (by rw [show sX10_goBack_9 a9 a37 a38 p0 = a9 from (by unfold sX10_goBack_9; exact ((if_neg c7).trans (if_pos c19))), show sX10_goBack_10 a10 a37 a38 p0 = a10 from (by unfold sX10_goBack_10; exact ((if_neg c7).trans (if_pos c19))), show sX10_goBack_26 a26 a38 p0 = a26 from (by unfold sX10_goBack_26; exact ((if_neg c7).trans (if_pos c19)))])
  ·
    refine s_ldc X (pc := 10) (v := -1000000001) kX10_goBack_c190 dX10_goBack_10 ?_
    exact s_iret X (pc := 12) (v := (-1000000001 : Int32)) dX10_goBack_12 (Eq.symm (show rX10_goBack a38 p0 = (-1000000001 : Int32) from (by unfold rX10_goBack; exact (if_pos c7)))) (by rw [show sX10_goBack_9 a9 a37 a38 p0 = a9 from (by unfold sX10_goBack_9; exact (if_pos c7)), show sX10_goBack_10 a10 a37 a38 p0 = a10 from (by unfold sX10_goBack_10; exact (if_pos c7)), show sX10_goBack_26 a26 a38 p0 = a26 from (by unfold sX10_goBack_26; exact (if_pos c7))])
