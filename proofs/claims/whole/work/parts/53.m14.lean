theorem iX10_dry_X10 : ∀ z ∈ wsX100, z ∈ wsX10_dry := fun z h => List.mem_cons_of_mem _ (List.mem_append_right _ h)
theorem kX10_dry_152 : Cond.fieldLink RX10 152 "BathingCourtModel" (TX10 0).2.1 (TX10 0).2.2.1 ∈ wsX10_dry := List.mem_of_getElem? (i := 2) rfl
theorem kX10_dry_c183 : Jvm.Cond.constant RX10 183 (-1000000003) ∈ wsX10_dry := List.mem_of_getElem? (i := 3) rfl
theorem kX10_dry_c101 : Jvm.Cond.constant RX10 101 (-1000000002) ∈ wsX10_dry := List.mem_of_getElem? (i := 1) rfl
def aX10_dry_22 (a0 : Int32) (a1 a9 : Nat → Int32) (p0 : Int32) : Nat → Nat → Int32
  | 0, k22 => (-1 : Int32)
  | n22 + 1, k22 => if (rX10_depthBehind a0 a1 a9 p0 (nI k22)) = 0 then (nI k22) else (aX10_dry_22 a0 a1 a9 p0 n22 (k22 + 1))
def rX10_dry (a0 : Int32) (a1 a9 : Nat → Int32) (p0 : Int32) : Int32 := if (rX10_isCell p0) = 0 then (-1000000002 : Int32) else (if a0 = 0 then (-1000000003 : Int32) else (aX10_dry_22 a0 a1 a9 p0 101 0))
set_option maxRecDepth 100000 in
set_option maxHeartbeats 4000000 in
theorem c_X10_dry (l : Launch) (G : GT) (ad : Nat → Nat) (a0 : Int32) (a1 : Nat → Int32) (a2 : Int32) (a3 : Nat → Int32) (a4 : Int32) (a5 a6 a7 a8 a9 : Nat → Int32) (a10 : Int32) (a11 : Nat → Int32) (a12 a13 a14 a15 a16 a17 : Int32) (a18 : Nat → Int32) (a19 : Int32) (a20 : Nat → Int32) (a21 : Int32) (a22 a23 a24 a25 : Nat → Int32) (a26 : Int32) (a27 a28 a29 a30 : Nat → Int32) (a31 : Int32) (a32 a33 : Nat → Int32) (a34 : Int32) (a35 a36 a37 a38 : Nat → Int32) (p0 : Int32) (t0 : 0 ≤ a0) (t12 : a0 ≤ 12) (n0 : 0 ≤ a9 22) (n9 : a9 22 ≤ 9060) : Ci l G yX10_dry wsX10_dry (rmL 2) [.ref (ad 0), .int p0] (wX10 G ad a0 a1 a2 a3 a4 a5 a6 a7 a8 a9 a10 a11 a12 a13 a14 a15 a16 a17 a18 a19 a20 a21 a22 a23 a24 a25 a26 a27 a28 a29 a30 a31 a32 a33 a34 a35 a36 a37 a38) (rX10_dry a0 a1 a9 p0) (wX10 G ad a0 a1 a2 a3 a4 a5 a6 a7 a8 a9 a10 a11 a12 a13 a14 a15 a16 a17 a18 a19 a20 a21 a22 a23 a24 a25 a26 a27 a28 a29 a30 a31 a32 a33 a34 a35 a36 a37 a38) := by
  refine ci_start .int (by decide) rfl rfl (Nat.le_of_ble_eq_true rfl) ?_
  intro p e s m args below meth c A X
  refine s_perm (lv2 := [(0, .ref (ad 0)), (1, .int p0)]) [0, 1] rfl ?_
  refine s_iload_n X (pc := 0) (x := p0) 1 dX10_dry_0 rfl ?_
  refine s_callSiN X (pc := 1) (r := rX10_isCell p0) (n := 1) (st := []) (As := [.int p0]) 1 (c_X10_isCell l G p0) gX10_dry_X10_isCell rfl (by decide +kernel) ⟨Nat.le_of_ble_eq_true rfl, Nat.le_of_ble_eq_true rfl⟩ rfl rfl (Nat.le_of_ble_eq_true rfl) (Nat.zero_le _) (Nat.zero_le _) dX10_dry_1 ?_
  refine s_if_ne X (pc := 4) (tgt := 10) dX10_dry_4 (by decide) (fun c4 => ?_) (fun c4 => ?_)
  ·
    refine s_aload_n X (pc := 10) (x := (ad 0)) 0 dX10_dry_10 rfl ?_
    refine s_get X (pc := 11) (v := .int a0) iX10_dry_X10 0 rfl rfl 0 (by decide) kX10_dry_152 rfl rfl dX10_dry_11 ?_
    refine s_if_ne X (pc := 14) (tgt := 20) dX10_dry_14 (by decide) (fun c14 => ?_) (fun c14 => ?_)
    ·
      refine s_iconst X (pc := 20) (v := 0) dX10_dry_20 (by decide) ?_
      refine s_istore_n X (pc := 21) (i := 2) (lv2 := [(2, .int (0 : Int32)), (0, .ref (ad 0)), (1, .int p0)]) dX10_dry_21 rfl (by decide) rfl ?_
      refine s_perm (lv2 := [(0, .ref (ad 0)), (1, .int p0), (2, .int (0 : Int32))]) [1, 2, 0] rfl ?_
      have L22 : ∀ (n22 k22 : Nat), k22 + n22 = 101 → rX10_dry a0 a1 a9 p0 = aX10_dry_22 a0 a1 a9 p0 n22 k22  → Sm p l e (rmL 2) s m args below meth c G A 3 0 0 (Qci below G A args s (rX10_dry a0 a1 a9 p0) (wX10 G ad a0 a1 a2 a3 a4 a5 a6 a7 a8 a9 a10 a11 a12 a13 a14 a15 a16 a17 a18 a19 a20 a21 a22 a23 a24 a25 a26 a27 a28 a29 a30 a31 a32 a33 a34 a35 a36 a37 a38)) 22 [(0, .ref (ad 0)), (1, .int p0), (2, .int (nI k22))] [] (wX10 G ad a0 a1 a2 a3 a4 a5 a6 a7 a8 a9 a10 a11 a12 a13 a14 a15 a16 a17 a18 a19 a20 a21 a22 a23 a24 a25 a26 a27 a28 a29 a30 a31 a32 a33 a34 a35 a36 a37 a38) := by
        intro n22
        induction n22 with
        | zero =>
          intro k22  hk22 hv22
          have hK22 : k22 = 101 := by omega
          have tk22 : (nI k22).toInt = ((k22 : Nat) : Int) := nI_toInt (by omega)
          have eN22 : ((100 : Int32)).toInt = 100 := rfl
          refine s_iload_n X (pc := 22) (x := nI k22) 2 dX10_dry_22 rfl ?_
          refine s_bipush X (pc := 23) (v := 100) dX10_dry_23 (by decide) ?_
          refine s_icmp_gt X (pc := 25) (tgt := 45) dX10_dry_25 (by decide) (fun c25 => ?_) (fun c25 => ?_)
          ·
            refine s_iconst X (pc := 45) (v := -1) dX10_dry_45 (by decide) ?_
            exact s_iret X (pc := 46) (v := (-1 : Int32)) dX10_dry_46 (Eq.symm (show rX10_dry a0 a1 a9 p0 = (-1 : Int32) from (hv22.trans (show aX10_dry_22 a0 a1 a9 p0 0 k22  = (-1 : Int32) from by rw [aX10_dry_22])))) rfl
          ·
            exact absurd ((t_lt eN22 tk22).mpr (by omega)) c25
        | succ n22 ih22 =>
          intro k22  hk22 hv22
          have hlt22 : k22 < 101 := by omega
          have tk22 : (nI k22).toInt = ((k22 : Nat) : Int) := nI_toInt (by omega)
          have eN22 : ((100 : Int32)).toInt = 100 := rfl
          have kb0 : (0 : Int32) ≤ nI k22 := (t_le (x := 0) rfl tk22).mpr (by omega)
          have kb1 : nI k22 < (101 : Int32) := (t_lt (y := 101) tk22 rfl).mpr (by omega)
          refine s_iload_n X (pc := 22) (x := nI k22) 2 dX10_dry_22 rfl ?_
          refine s_bipush X (pc := 23) (v := 100) dX10_dry_23 (by decide) ?_
          refine s_icmp_gt X (pc := 25) (tgt := 45) dX10_dry_25 (by decide) (fun c25 => ?_) (fun c25 => ?_)
          ·
            exact absurd ((t_lt eN22 tk22).mp c25) (by omega)
          ·
            refine s_aload_n X (pc := 28) (x := (ad 0)) 0 dX10_dry_28 rfl ?_
            refine s_iload_n X (pc := 29) (x := p0) 1 dX10_dry_29 rfl ?_
            refine s_iload_n X (pc := 30) (x := nI k22) 2 dX10_dry_30 rfl ?_
            refine s_callVi0 X (pc := 31) (r := rX10_depthBehind a0 a1 a9 p0 (nI k22)) (w := wX10 G ad a0 a1 a2 a3 a4 a5 a6 a7 a8 a9 a10 a11 a12 a13 a14 a15 a16 a17 a18 a19 a20 a21 a22 a23 a24 a25 a26 a27 a28 a29 a30 a31 a32 a33 a34 a35 a36 a37 a38) (n := 2) (st := []) (As := [.int p0, .int (nI k22)]) (w2 := wX10 G ad a0 a1 a2 a3 a4 a5 a6 a7 a8 a9 a10 a11 a12 a13 a14 a15 a16 a17 a18 a19 a20 a21 a22 a23 a24 a25 a26 a27 a28 a29 a30 a31 a32 a33 a34 a35 a36 a37 a38) 0 (c_X10_depthBehind l G ad a0 a1 a2 a3 a4 a5 a6 a7 a8 a9 a10 a11 a12 a13 a14 a15 a16 a17 a18 a19 a20 a21 a22 a23 a24 a25 a26 a27 a28 a29 a30 a31 a32 a33 a34 a35 a36 a37 a38 p0 (nI k22) (by grind) t12 (by grind)) gX10_dry_X10_depthBehind rfl (by decide +kernel) ⟨Nat.le_of_ble_eq_true rfl, Nat.le_of_ble_eq_true rfl⟩ 0 rfl rfl rfl rfl (Nat.le_of_ble_eq_true rfl) (Nat.zero_le _) (Nat.zero_le _) dX10_dry_31 ?_
            refine s_if_ne X (pc := 34) (tgt := 39) dX10_dry_34 (by decide) (fun c34 => ?_) (fun c34 => ?_)
            ·
              refine s_iinc X (pc := 39) (v := nI (k22 + 1)) (lv2 := [(2, .int (nI (k22 + 1))), (0, .ref (ad 0)), (1, .int p0)]) 2 dX10_dry_39 rfl (nI_1 _) (by decide) rfl ?_
              refine s_goto X (pc := 42) (tgt := 22) dX10_dry_42 (by decide) ?_
              refine s_perm (lv2 := [(0, .ref (ad 0)), (1, .int p0), (2, .int (nI (k22 + 1)))]) [1, 2, 0] rfl ?_
              exact ih22 (k22 + 1)  (by omega) (hv22.trans (show aX10_dry_22 a0 a1 a9 p0 (n22 + 1) k22  = aX10_dry_22 a0 a1 a9 p0 n22 (k22 + 1)  from by rw [aX10_dry_22]; exact (if_neg c34)))
            ·
              refine s_iload_n X (pc := 37) (x := nI k22) 2 dX10_dry_37 rfl ?_
              exact s_iret X (pc := 38) (v := nI k22) dX10_dry_38 (Eq.symm (show rX10_dry a0 a1 a9 p0 = nI k22 from (hv22.trans (show aX10_dry_22 a0 a1 a9 p0 (n22 + 1) k22  = nI k22 from by rw [aX10_dry_22]; exact (if_pos c34))))) rfl
      exact L22 101 0  (Nat.zero_add _) (by unfold rX10_dry; exact ((if_neg c4).trans (if_neg c14)))
    ·
      refine s_ldc X (pc := 17) (v := -1000000003) kX10_dry_c183 dX10_dry_17 ?_
      exact s_iret X (pc := 19) (v := (-1000000003 : Int32)) dX10_dry_19 (Eq.symm (show rX10_dry a0 a1 a9 p0 = (-1000000003 : Int32) from (by unfold rX10_dry; exact ((if_neg c4).trans (if_pos c14))))) rfl
  ·
    refine s_ldc X (pc := 7) (v := -1000000002) kX10_dry_c101 dX10_dry_7 ?_
    exact s_iret X (pc := 9) (v := (-1000000002 : Int32)) dX10_dry_9 (Eq.symm (show rX10_dry a0 a1 a9 p0 = (-1000000002 : Int32) from (by unfold rX10_dry; exact (if_pos c4)))) rfl

theorem iX10_stays_X10 : ∀ z ∈ wsX100, z ∈ wsX10_stays := fun z h => List.mem_cons_of_mem _ (List.mem_append_right _ h)
theorem kX10_stays_c101 : Jvm.Cond.constant RX10 101 (-1000000002) ∈ wsX10_stays := List.mem_of_getElem? (i := 2) rfl
theorem kX10_stays_l255 : Jvm.Cond.constantLong RX10 255 (10) ∈ wsX10_stays := List.mem_of_getElem? (i := 1) rfl
theorem kX10_stays_152 : Cond.fieldLink RX10 152 "BathingCourtModel" (TX10 0).2.1 (TX10 0).2.2.1 ∈ wsX10_stays := List.mem_of_getElem? (i := 3) rfl
theorem kX10_stays_c183 : Jvm.Cond.constant RX10 183 (-1000000003) ∈ wsX10_stays := List.mem_of_getElem? (i := 4) rfl
def aX10_stays_34 (a0 : Int32) (a1 a9 : Nat → Int32) (p0 p1 : Int32) : Nat → Nat → Int32
  | 0, k34 => nI k34
  | n34 + 1, k34 => if p1 < (rX10_depthBehind a0 a1 a9 p0 (nI k34)) then (nI k34) else (aX10_stays_34 a0 a1 a9 p0 p1 n34 (k34 + 1))
def rX10_stays (a0 : Int32) (a1 a9 : Nat → Int32) (p0 p1 : Int32) : Int32 := if (rX10_isCell p0) = 0 then (-1000000002 : Int32) else (if (rX10_in p1.toInt64 (0 : Int64) (10 : Int64)) = 0 then (-1000000002 : Int32) else (if a0 = 0 then (-1000000003 : Int32) else (aX10_stays_34 a0 a1 a9 p0 p1 100 0)))
set_option maxRecDepth 100000 in
set_option maxHeartbeats 4000000 in
theorem c_X10_stays (l : Launch) (G : GT) (ad : Nat → Nat) (a0 : Int32) (a1 : Nat → Int32) (a2 : Int32) (a3 : Nat → Int32) (a4 : Int32) (a5 a6 a7 a8 a9 : Nat → Int32) (a10 : Int32) (a11 : Nat → Int32) (a12 a13 a14 a15 a16 a17 : Int32) (a18 : Nat → Int32) (a19 : Int32) (a20 : Nat → Int32) (a21 : Int32) (a22 a23 a24 a25 : Nat → Int32) (a26 : Int32) (a27 a28 a29 a30 : Nat → Int32) (a31 : Int32) (a32 a33 : Nat → Int32) (a34 : Int32) (a35 a36 a37 a38 : Nat → Int32) (p0 p1 : Int32) (t0 : 0 ≤ a0) (t12 : a0 ≤ 12) (n0 : 0 ≤ a9 22) (n9 : a9 22 ≤ 9060) : Ci l G yX10_stays wsX10_stays (rmL 2) [.ref (ad 0), .int p0, .int p1] (wX10 G ad a0 a1 a2 a3 a4 a5 a6 a7 a8 a9 a10 a11 a12 a13 a14 a15 a16 a17 a18 a19 a20 a21 a22 a23 a24 a25 a26 a27 a28 a29 a30 a31 a32 a33 a34 a35 a36 a37 a38) (rX10_stays a0 a1 a9 p0 p1) (wX10 G ad a0 a1 a2 a3 a4 a5 a6 a7 a8 a9 a10 a11 a12 a13 a14 a15 a16 a17 a18 a19 a20 a21 a22 a23 a24 a25 a26 a27 a28 a29 a30 a31 a32 a33 a34 a35 a36 a37 a38) := by
  refine ci_start .int (by decide) rfl rfl (Nat.le_of_ble_eq_true rfl) ?_
  intro p e s m args below meth c A X
  refine s_perm (lv2 := [(0, .ref (ad 0)), (1, .int p0), (2, .int p1)]) [0, 1, 2] rfl ?_
  refine s_iload_n X (pc := 0) (x := p0) 1 dX10_stays_0 rfl ?_
  refine s_callSiN X (pc := 1) (r := rX10_isCell p0) (n := 1) (st := []) (As := [.int p0]) 1 (c_X10_isCell l G p0) gX10_stays_X10_isCell rfl (by decide +kernel) ⟨Nat.le_of_ble_eq_true rfl, Nat.le_of_ble_eq_true rfl⟩ rfl rfl (Nat.le_of_ble_eq_true rfl) (Nat.zero_le _) (Nat.zero_le _) dX10_stays_1 ?_
  refine s_if_eq X (pc := 4) (tgt := 19) dX10_stays_4 (by decide) (fun c4 => ?_) (fun c4 => ?_)
  ·
    refine s_ldc X (pc := 19) (v := -1000000002) kX10_stays_c101 dX10_stays_19 ?_
    exact s_iret X (pc := 21) (v := (-1000000002 : Int32)) dX10_stays_21 (Eq.symm (show rX10_stays a0 a1 a9 p0 p1 = (-1000000002 : Int32) from (by unfold rX10_stays; exact (if_pos c4)))) rfl
  ·
    refine s_iload_n X (pc := 7) (x := p1) 2 dX10_stays_7 rfl ?_
    refine s_i2l X (pc := 8) dX10_stays_8 ?_
    refine s_lconst X (pc := 9) (v := 0) dX10_stays_9 (by decide) ?_
    refine s_ldc2 X (pc := 10) (v := 10) kX10_stays_l255 dX10_stays_10 ?_
    refine s_callSiN X (pc := 13) (r := rX10_in p1.toInt64 (0 : Int64) (10 : Int64)) (n := 3) (st := []) (As := [.long p1.toInt64, .long (0 : Int64), .long (10 : Int64)]) 0 (c_X10_in l G p1.toInt64 (0 : Int64) (10 : Int64)) gX10_stays_X10_in rfl (by decide +kernel) ⟨Nat.le_of_ble_eq_true rfl, Nat.le_of_ble_eq_true rfl⟩ rfl rfl (Nat.le_of_ble_eq_true rfl) (Nat.zero_le _) (Nat.zero_le _) dX10_stays_13 ?_
    refine s_if_ne X (pc := 16) (tgt := 22) dX10_stays_16 (by decide) (fun c16 => ?_) (fun c16 => ?_)
    ·
      refine s_aload_n X (pc := 22) (x := (ad 0)) 0 dX10_stays_22 rfl ?_
      refine s_get X (pc := 23) (v := .int a0) iX10_stays_X10 0 rfl rfl 0 (by decide) kX10_stays_152 rfl rfl dX10_stays_23 ?_
      refine s_if_ne X (pc := 26) (tgt := 32) dX10_stays_26 (by decide) (fun c26 => ?_) (fun c26 => ?_)
      ·
        refine s_iconst X (pc := 32) (v := 0) dX10_stays_32 (by decide) ?_
        refine s_istore_n X (pc := 33) (i := 3) (lv2 := [(3, .int (0 : Int32)), (0, .ref (ad 0)), (1, .int p0), (2, .int p1)]) dX10_stays_33 rfl (by decide) rfl ?_
        refine s_perm (lv2 := [(0, .ref (ad 0)), (1, .int p0), (2, .int p1), (3, .int (0 : Int32))]) [1, 2, 3, 0] rfl ?_
        have L34 : ∀ (n34 k34 : Nat), k34 + n34 = 100 → rX10_stays a0 a1 a9 p0 p1 = aX10_stays_34 a0 a1 a9 p0 p1 n34 k34  → Sm p l e (rmL 2) s m args below meth c G A 4 0 0 (Qci below G A args s (rX10_stays a0 a1 a9 p0 p1) (wX10 G ad a0 a1 a2 a3 a4 a5 a6 a7 a8 a9 a10 a11 a12 a13 a14 a15 a16 a17 a18 a19 a20 a21 a22 a23 a24 a25 a26 a27 a28 a29 a30 a31 a32 a33 a34 a35 a36 a37 a38)) 34 [(0, .ref (ad 0)), (1, .int p0), (2, .int p1), (3, .int (nI k34))] [] (wX10 G ad a0 a1 a2 a3 a4 a5 a6 a7 a8 a9 a10 a11 a12 a13 a14 a15 a16 a17 a18 a19 a20 a21 a22 a23 a24 a25 a26 a27 a28 a29 a30 a31 a32 a33 a34 a35 a36 a37 a38) := by
          intro n34
          induction n34 with
          | zero =>
            intro k34  hk34 hv34
            have hK34 : k34 = 100 := by omega
            have tk34 : (nI k34).toInt = ((k34 : Nat) : Int) := nI_toInt (by omega)
            have eN34 : ((100 : Int32)).toInt = ((100 : Nat) : Int) := rfl
            refine s_iload_n X (pc := 34) (x := nI k34) 3 dX10_stays_34 rfl ?_
            refine s_bipush X (pc := 35) (v := 100) dX10_stays_35 (by decide) ?_
            refine s_icmp_ge X (pc := 37) (tgt := 56) dX10_stays_37 (by decide) (fun c37 => ?_) (fun c37 => ?_)
            ·
              refine s_iload_n X (pc := 56) (x := nI k34) 3 dX10_stays_56 rfl ?_
              exact s_iret X (pc := 57) (v := nI k34) dX10_stays_57 (Eq.symm (show rX10_stays a0 a1 a9 p0 p1 = nI k34 from (hv34.trans (show aX10_stays_34 a0 a1 a9 p0 p1 0 k34  = nI k34 from by rw [aX10_stays_34])))) rfl
            ·
              exact absurd ((t_le eN34 tk34).mpr (by omega)) c37
          | succ n34 ih34 =>
            intro k34  hk34 hv34
            have hlt34 : k34 < 100 := by omega
            have tk34 : (nI k34).toInt = ((k34 : Nat) : Int) := nI_toInt (by omega)
            have eN34 : ((100 : Int32)).toInt = ((100 : Nat) : Int) := rfl
            have kb0 : (0 : Int32) ≤ nI k34 := (t_le (x := 0) rfl tk34).mpr (by omega)
            have kb1 : nI k34 < (100 : Int32) := (t_lt (y := 100) tk34 rfl).mpr (by omega)
            refine s_iload_n X (pc := 34) (x := nI k34) 3 dX10_stays_34 rfl ?_
            refine s_bipush X (pc := 35) (v := 100) dX10_stays_35 (by decide) ?_
            refine s_icmp_ge X (pc := 37) (tgt := 56) dX10_stays_37 (by decide) (fun c37 => ?_) (fun c37 => ?_)
            ·
              exact absurd ((t_le eN34 tk34).mp c37) (by omega)
            ·
              refine s_aload_n X (pc := 40) (x := (ad 0)) 0 dX10_stays_40 rfl ?_
              refine s_iload_n X (pc := 41) (x := p0) 1 dX10_stays_41 rfl ?_
              refine s_iload_n X (pc := 42) (x := nI k34) 3 dX10_stays_42 rfl ?_
              refine s_callVi0 X (pc := 43) (r := rX10_depthBehind a0 a1 a9 p0 (nI k34)) (w := wX10 G ad a0 a1 a2 a3 a4 a5 a6 a7 a8 a9 a10 a11 a12 a13 a14 a15 a16 a17 a18 a19 a20 a21 a22 a23 a24 a25 a26 a27 a28 a29 a30 a31 a32 a33 a34 a35 a36 a37 a38) (n := 2) (st := []) (As := [.int p0, .int (nI k34)]) (w2 := wX10 G ad a0 a1 a2 a3 a4 a5 a6 a7 a8 a9 a10 a11 a12 a13 a14 a15 a16 a17 a18 a19 a20 a21 a22 a23 a24 a25 a26 a27 a28 a29 a30 a31 a32 a33 a34 a35 a36 a37 a38) 0 (c_X10_depthBehind l G ad a0 a1 a2 a3 a4 a5 a6 a7 a8 a9 a10 a11 a12 a13 a14 a15 a16 a17 a18 a19 a20 a21 a22 a23 a24 a25 a26 a27 a28 a29 a30 a31 a32 a33 a34 a35 a36 a37 a38 p0 (nI k34) (by grind) t12 (by grind)) gX10_stays_X10_depthBehind rfl (by decide +kernel) ⟨Nat.le_of_ble_eq_true rfl, Nat.le_of_ble_eq_true rfl⟩ 0 rfl rfl rfl rfl (Nat.le_of_ble_eq_true rfl) (Nat.zero_le _) (Nat.zero_le _) dX10_stays_43 ?_
              refine s_iload_n X (pc := 46) (x := p1) 2 dX10_stays_46 rfl ?_
              refine s_icmp_gt X (pc := 47) (tgt := 56) dX10_stays_47 (by decide) (fun c47 => ?_) (fun c47 => ?_)
              ·
                refine s_iload_n X (pc := 56) (x := nI k34) 3 dX10_stays_56 rfl ?_
                exact s_iret X (pc := 57) (v := nI k34) dX10_stays_57 (Eq.symm (show rX10_stays a0 a1 a9 p0 p1 = nI k34 from (hv34.trans (show aX10_stays_34 a0 a1 a9 p0 p1 (n34 + 1) k34  = nI k34 from by rw [aX10_stays_34]; exact (if_pos c47))))) rfl
              ·
                refine s_iinc X (pc := 50) (v := nI (k34 + 1)) (lv2 := [(3, .int (nI (k34 + 1))), (0, .ref (ad 0)), (1, .int p0), (2, .int p1)]) 3 dX10_stays_50 rfl (nI_1 _) (by decide) rfl ?_
                refine s_goto X (pc := 53) (tgt := 34) dX10_stays_53 (by decide) ?_
                refine s_perm (lv2 := [(0, .ref (ad 0)), (1, .int p0), (2, .int p1), (3, .int (nI (k34 + 1)))]) [1, 2, 3, 0] rfl ?_
                exact ih34 (k34 + 1)  (by omega) (hv34.trans (show aX10_stays_34 a0 a1 a9 p0 p1 (n34 + 1) k34  = aX10_stays_34 a0 a1 a9 p0 p1 n34 (k34 + 1)  from by rw [aX10_stays_34]; exact (if_neg c47)))
        exact L34 100 0  (Nat.zero_add _) (by unfold rX10_stays; exact ((if_neg c4).trans ((if_neg c16).trans (if_neg c26))))
      ·
        refine s_ldc X (pc := 29) (v := -1000000003) kX10_stays_c183 dX10_stays_29 ?_
        exact s_iret X (pc := 31) (v := (-1000000003 : Int32)) dX10_stays_31 (Eq.symm (show rX10_stays a0 a1 a9 p0 p1 = (-1000000003 : Int32) from (by unfold rX10_stays; exact ((if_neg c4).trans ((if_neg c16).trans (if_pos c26)))))) rfl
    ·
      refine s_ldc X (pc := 19) (v := -1000000002) kX10_stays_c101 dX10_stays_19 ?_
      exact s_iret X (pc := 21) (v := (-1000000002 : Int32)) dX10_stays_21 (Eq.symm (show rX10_stays a0 a1 a9 p0 p1 = (-1000000002 : Int32) from (by unfold rX10_stays; exact ((if_neg c4).trans (if_pos c16))))) rfl

theorem iX10_spot_X10 : ∀ z ∈ wsX100, z ∈ wsX10_spot := fun z h => List.mem_cons_of_mem _ (List.mem_append_right _ h)
theorem kX10_spot_l255 : Jvm.Cond.constantLong RX10 255 (10) ∈ wsX10_spot := List.mem_of_getElem? (i := 1) rfl
theorem kX10_spot_152 : Cond.fieldLink RX10 152 "BathingCourtModel" (TX10 0).2.1 (TX10 0).2.2.1 ∈ wsX10_spot := List.mem_of_getElem? (i := 3) rfl
theorem kX10_spot_c183 : Jvm.Cond.constant RX10 183 (-1000000003) ∈ wsX10_spot := List.mem_of_getElem? (i := 4) rfl
theorem kX10_spot_c101 : Jvm.Cond.constant RX10 101 (-1000000002) ∈ wsX10_spot := List.mem_of_getElem? (i := 2) rfl
def aX10_spot_27 (a0 : Int32) (a1 a9 : Nat → Int32) (p0 : Int32) : Nat → Nat → Int32
  | 0, k27 => (-1 : Int32)
  | n27 + 1, k27 => if (rX10_depthBehind a0 a1 a9 (nI k27) (0 : Int32)) = p0 then (nI k27) else (aX10_spot_27 a0 a1 a9 p0 n27 (k27 + 1))
def rX10_spot (a0 : Int32) (a1 a9 : Nat → Int32) (p0 : Int32) : Int32 := if (rX10_in p0.toInt64 (0 : Int64) (10 : Int64)) = 0 then (-1000000002 : Int32) else (if a0 = 0 then (-1000000003 : Int32) else (aX10_spot_27 a0 a1 a9 p0 10 0))
set_option maxRecDepth 100000 in
set_option maxHeartbeats 4000000 in
theorem c_X10_spot (l : Launch) (G : GT) (ad : Nat → Nat) (a0 : Int32) (a1 : Nat → Int32) (a2 : Int32) (a3 : Nat → Int32) (a4 : Int32) (a5 a6 a7 a8 a9 : Nat → Int32) (a10 : Int32) (a11 : Nat → Int32) (a12 a13 a14 a15 a16 a17 : Int32) (a18 : Nat → Int32) (a19 : Int32) (a20 : Nat → Int32) (a21 : Int32) (a22 a23 a24 a25 : Nat → Int32) (a26 : Int32) (a27 a28 a29 a30 : Nat → Int32) (a31 : Int32) (a32 a33 : Nat → Int32) (a34 : Int32) (a35 a36 a37 a38 : Nat → Int32) (p0 : Int32) (t0 : 0 ≤ a0) (t12 : a0 ≤ 12) (n0 : 0 ≤ a9 22) (n9 : a9 22 ≤ 9060) : Ci l G yX10_spot wsX10_spot (rmL 1) [.ref (ad 0), .int p0] (wX10 G ad a0 a1 a2 a3 a4 a5 a6 a7 a8 a9 a10 a11 a12 a13 a14 a15 a16 a17 a18 a19 a20 a21 a22 a23 a24 a25 a26 a27 a28 a29 a30 a31 a32 a33 a34 a35 a36 a37 a38) (rX10_spot a0 a1 a9 p0) (wX10 G ad a0 a1 a2 a3 a4 a5 a6 a7 a8 a9 a10 a11 a12 a13 a14 a15 a16 a17 a18 a19 a20 a21 a22 a23 a24 a25 a26 a27 a28 a29 a30 a31 a32 a33 a34 a35 a36 a37 a38) := by
  refine ci_start .int (by decide) rfl rfl (Nat.le_of_ble_eq_true rfl) ?_
  intro p e s m args below meth c A X
  refine s_perm (lv2 := [(0, .ref (ad 0)), (1, .int p0)]) [0, 1] rfl ?_
  refine s_iload_n X (pc := 0) (x := p0) 1 dX10_spot_0 rfl ?_
  refine s_i2l X (pc := 1) dX10_spot_1 ?_
  refine s_lconst X (pc := 2) (v := 0) dX10_spot_2 (by decide) ?_
  refine s_ldc2 X (pc := 3) (v := 10) kX10_spot_l255 dX10_spot_3 ?_
  refine s_callSiN X (pc := 6) (r := rX10_in p0.toInt64 (0 : Int64) (10 : Int64)) (n := 3) (st := []) (As := [.long p0.toInt64, .long (0 : Int64), .long (10 : Int64)]) 0 (c_X10_in l G p0.toInt64 (0 : Int64) (10 : Int64)) gX10_spot_X10_in rfl (by decide +kernel) ⟨Nat.le_of_ble_eq_true rfl, Nat.le_of_ble_eq_true rfl⟩ rfl rfl (Nat.le_of_ble_eq_true rfl) (Nat.zero_le _) (Nat.zero_le _) dX10_spot_6 ?_
  refine s_if_ne X (pc := 9) (tgt := 15) dX10_spot_9 (by decide) (fun c9 => ?_) (fun c9 => ?_)
  ·
    refine s_aload_n X (pc := 15) (x := (ad 0)) 0 dX10_spot_15 rfl ?_
    refine s_get X (pc := 16) (v := .int a0) iX10_spot_X10 0 rfl rfl 0 (by decide) kX10_spot_152 rfl rfl dX10_spot_16 ?_
    refine s_if_ne X (pc := 19) (tgt := 25) dX10_spot_19 (by decide) (fun c19 => ?_) (fun c19 => ?_)
    ·
      refine s_iconst X (pc := 25) (v := 0) dX10_spot_25 (by decide) ?_
      refine s_istore_n X (pc := 26) (i := 2) (lv2 := [(2, .int (0 : Int32)), (0, .ref (ad 0)), (1, .int p0)]) dX10_spot_26 rfl (by decide) rfl ?_
      refine s_perm (lv2 := [(0, .ref (ad 0)), (1, .int p0), (2, .int (0 : Int32))]) [1, 2, 0] rfl ?_
      have L27 : ∀ (n27 k27 : Nat), k27 + n27 = 10 → rX10_spot a0 a1 a9 p0 = aX10_spot_27 a0 a1 a9 p0 n27 k27  → Sm p l e (rmL 1) s m args below meth c G A 3 0 0 (Qci below G A args s (rX10_spot a0 a1 a9 p0) (wX10 G ad a0 a1 a2 a3 a4 a5 a6 a7 a8 a9 a10 a11 a12 a13 a14 a15 a16 a17 a18 a19 a20 a21 a22 a23 a24 a25 a26 a27 a28 a29 a30 a31 a32 a33 a34 a35 a36 a37 a38)) 27 [(0, .ref (ad 0)), (1, .int p0), (2, .int (nI k27))] [] (wX10 G ad a0 a1 a2 a3 a4 a5 a6 a7 a8 a9 a10 a11 a12 a13 a14 a15 a16 a17 a18 a19 a20 a21 a22 a23 a24 a25 a26 a27 a28 a29 a30 a31 a32 a33 a34 a35 a36 a37 a38) := by
        intro n27
        induction n27 with
        | zero =>
          intro k27  hk27 hv27
          have hK27 : k27 = 10 := by omega
          have tk27 : (nI k27).toInt = ((k27 : Nat) : Int) := nI_toInt (by omega)
          have eN27 : ((10 : Int32)).toInt = ((10 : Nat) : Int) := rfl
          refine s_iload_n X (pc := 27) (x := nI k27) 2 dX10_spot_27 rfl ?_
          refine s_bipush X (pc := 28) (v := 10) dX10_spot_28 (by decide) ?_
          refine s_icmp_ge X (pc := 30) (tgt := 51) dX10_spot_30 (by decide) (fun c30 => ?_) (fun c30 => ?_)
          ·
            refine s_iconst X (pc := 51) (v := -1) dX10_spot_51 (by decide) ?_
            exact s_iret X (pc := 52) (v := (-1 : Int32)) dX10_spot_52 (Eq.symm (show rX10_spot a0 a1 a9 p0 = (-1 : Int32) from (hv27.trans (show aX10_spot_27 a0 a1 a9 p0 0 k27  = (-1 : Int32) from by rw [aX10_spot_27])))) rfl
          ·
            exact absurd ((t_le eN27 tk27).mpr (by omega)) c30
        | succ n27 ih27 =>
          intro k27  hk27 hv27
          have hlt27 : k27 < 10 := by omega
          have tk27 : (nI k27).toInt = ((k27 : Nat) : Int) := nI_toInt (by omega)
          have eN27 : ((10 : Int32)).toInt = ((10 : Nat) : Int) := rfl
          have kb0 : (0 : Int32) ≤ nI k27 := (t_le (x := 0) rfl tk27).mpr (by omega)
          have kb1 : nI k27 < (10 : Int32) := (t_lt (y := 10) tk27 rfl).mpr (by omega)
          refine s_iload_n X (pc := 27) (x := nI k27) 2 dX10_spot_27 rfl ?_
          refine s_bipush X (pc := 28) (v := 10) dX10_spot_28 (by decide) ?_
          refine s_icmp_ge X (pc := 30) (tgt := 51) dX10_spot_30 (by decide) (fun c30 => ?_) (fun c30 => ?_)
          ·
            exact absurd ((t_le eN27 tk27).mp c30) (by omega)
          ·
            refine s_aload_n X (pc := 33) (x := (ad 0)) 0 dX10_spot_33 rfl ?_
            refine s_iload_n X (pc := 34) (x := nI k27) 2 dX10_spot_34 rfl ?_
            refine s_iconst X (pc := 35) (v := 0) dX10_spot_35 (by decide) ?_
            refine s_callVi0 X (pc := 36) (r := rX10_depthBehind a0 a1 a9 (nI k27) (0 : Int32)) (w := wX10 G ad a0 a1 a2 a3 a4 a5 a6 a7 a8 a9 a10 a11 a12 a13 a14 a15 a16 a17 a18 a19 a20 a21 a22 a23 a24 a25 a26 a27 a28 a29 a30 a31 a32 a33 a34 a35 a36 a37 a38) (n := 2) (st := []) (As := [.int (nI k27), .int (0 : Int32)]) (w2 := wX10 G ad a0 a1 a2 a3 a4 a5 a6 a7 a8 a9 a10 a11 a12 a13 a14 a15 a16 a17 a18 a19 a20 a21 a22 a23 a24 a25 a26 a27 a28 a29 a30 a31 a32 a33 a34 a35 a36 a37 a38) 0 (c_X10_depthBehind l G ad a0 a1 a2 a3 a4 a5 a6 a7 a8 a9 a10 a11 a12 a13 a14 a15 a16 a17 a18 a19 a20 a21 a22 a23 a24 a25 a26 a27 a28 a29 a30 a31 a32 a33 a34 a35 a36 a37 a38 (nI k27) (0 : Int32) (by grind) t12 (by grind)) gX10_spot_X10_depthBehind rfl (by decide +kernel) ⟨Nat.le_of_ble_eq_true rfl, Nat.le_of_ble_eq_true rfl⟩ 0 rfl rfl rfl rfl (Nat.le_of_ble_eq_true rfl) (Nat.zero_le _) (Nat.zero_le _) dX10_spot_36 ?_
            refine s_iload_n X (pc := 39) (x := p0) 1 dX10_spot_39 rfl ?_
            refine s_icmp_ne X (pc := 40) (tgt := 45) dX10_spot_40 (by decide) (fun c40 => ?_) (fun c40 => ?_)
            ·
              refine s_iinc X (pc := 45) (v := nI (k27 + 1)) (lv2 := [(2, .int (nI (k27 + 1))), (0, .ref (ad 0)), (1, .int p0)]) 2 dX10_spot_45 rfl (nI_1 _) (by decide) rfl ?_
              refine s_goto X (pc := 48) (tgt := 27) dX10_spot_48 (by decide) ?_
              refine s_perm (lv2 := [(0, .ref (ad 0)), (1, .int p0), (2, .int (nI (k27 + 1)))]) [1, 2, 0] rfl ?_
              exact ih27 (k27 + 1)  (by omega) (hv27.trans (show aX10_spot_27 a0 a1 a9 p0 (n27 + 1) k27  = aX10_spot_27 a0 a1 a9 p0 n27 (k27 + 1)  from by rw [aX10_spot_27]; exact (if_neg c40)))
            ·
              refine s_iload_n X (pc := 43) (x := nI k27) 2 dX10_spot_43 rfl ?_
              exact s_iret X (pc := 44) (v := nI k27) dX10_spot_44 (Eq.symm (show rX10_spot a0 a1 a9 p0 = nI k27 from (hv27.trans (show aX10_spot_27 a0 a1 a9 p0 (n27 + 1) k27  = nI k27 from by rw [aX10_spot_27]; exact (if_pos c40))))) rfl
      exact L27 10 0  (Nat.zero_add _) (by unfold rX10_spot; exact ((if_neg c9).trans (if_neg c19)))
    ·
      refine s_ldc X (pc := 22) (v := -1000000003) kX10_spot_c183 dX10_spot_22 ?_
      exact s_iret X (pc := 24) (v := (-1000000003 : Int32)) dX10_spot_24 (Eq.symm (show rX10_spot a0 a1 a9 p0 = (-1000000003 : Int32) from (by unfold rX10_spot; exact ((if_neg c9).trans (if_pos c19))))) rfl
  ·
    refine s_ldc X (pc := 12) (v := -1000000002) kX10_spot_c101 dX10_spot_12 ?_
    exact s_iret X (pc := 14) (v := (-1000000002 : Int32)) dX10_spot_14 (Eq.symm (show rX10_spot a0 a1 a9 p0 = (-1000000002 : Int32) from (by unfold rX10_spot; exact (if_pos c9)))) rfl

theorem iX10_soonest_X10 : ∀ z ∈ wsX100, z ∈ wsX10_soonest := fun z h => List.mem_cons_of_mem _ (List.mem_append_right _ h)
theorem kX10_soonest_c190 : Jvm.Cond.constant RX10 190 (-1000000001) ∈ wsX10_soonest := List.mem_of_getElem? (i := 1) rfl
theorem kX10_soonest_28 : Cond.fieldLink RX10 28 "BathingCourtModel" (TX10 9).2.1 (TX10 9).2.2.1 ∈ wsX10_soonest := List.mem_of_getElem? (i := 2) rfl
theorem kX10_soonest_13 : Cond.fieldLink RX10 13 "BathingCourtModel" (TX10 3).2.1 (TX10 3).2.2.1 ∈ wsX10_soonest := List.mem_of_getElem? (i := 3) rfl
def aX10_soonest_56 (a0 : Int32) (a1 a5 a7 a9 : Nat → Int32) (p0 p1 l3 l4 : Int32) : Nat → Int32 → Int32 × Int32 × Int32
  | 0, il5 => ((0 : Int32), (0 : Int32), il5)
  | n56 + 1, il5 => if (10 : Int32) ≤ il5 then ((0 : Int32), (0 : Int32), il5) else (if (rX10_in il5.toInt64 (((a9 p0.toNatClampNeg) - l3).toInt64) (((a9 p0.toNatClampNeg) + l3).toInt64)) = 0 then (aX10_soonest_56 a0 a1 a5 a7 a9 p0 p1 l3 l4 n56 (il5 + (1 : Int32))) else (if (rX10_isDeepEnough a5 a7 p1 (rX10_depthBehind a0 a1 a9 il5 l4)) = 0 then (aX10_soonest_56 a0 a1 a5 a7 a9 p0 p1 l3 l4 n56 (il5 + (1 : Int32))) else ((1 : Int32), l4, il5)))
def aX10_soonest_46 (a0 : Int32) (a1 a3 a5 a7 a9 : Nat → Int32) (p0 p1 : Int32) : Nat → Int32 → Int32 → Int32 × Int32 × Int32 × Int32
  | 0, l3, l4 => ((0 : Int32), (0 : Int32), l3, l4)
  | n46 + 1, l3, l4 => if (31 : Int32) ≤ l4 then ((0 : Int32), (0 : Int32), l3, l4) else (if (aX10_soonest_56 a0 a1 a5 a7 a9 p0 p1 l3 l4 11 (0 : Int32)).1 = 1 then ((1 : Int32), (aX10_soonest_56 a0 a1 a5 a7 a9 p0 p1 l3 l4 11 (0 : Int32)).2.1, l3, l4) else (aX10_soonest_46 a0 a1 a3 a5 a7 a9 p0 p1 n46 (l3 + (a3 p0.toNatClampNeg)) (l4 + (1 : Int32))))
def rX10_soonest (a0 : Int32) (a1 : Nat → Int32) (a2 : Int32) (a3 : Nat → Int32) (a4 : Int32) (a5 a7 a9 : Nat → Int32) (p0 p1 : Int32) : Int32 := if (rX10_isHut a2 p0) = 0 then (-1000000001 : Int32) else (if (rX10_isCase a4 p1) = 0 then (-1000000001 : Int32) else (if (a9 ((8 : Int32) + p0).toNatClampNeg) = (1 : Int32) then (if (aX10_soonest_46 a0 a1 a3 a5 a7 a9 p0 p1 32 (0 : Int32) (0 : Int32)).1 = 1 then ((aX10_soonest_46 a0 a1 a3 a5 a7 a9 p0 p1 32 (0 : Int32) (0 : Int32)).2.1) else (-1 : Int32)) else (if (aX10_soonest_46 a0 a1 a3 a5 a7 a9 p0 p1 32 (a3 p0.toNatClampNeg) (0 : Int32)).1 = 1 then ((aX10_soonest_46 a0 a1 a3 a5 a7 a9 p0 p1 32 (a3 p0.toNatClampNeg) (0 : Int32)).2.1) else (-1 : Int32))))
set_option maxRecDepth 100000 in
set_option maxHeartbeats 4000000 in
theorem c_X10_soonest (l : Launch) (G : GT) (ad : Nat → Nat) (a0 : Int32) (a1 : Nat → Int32) (a2 : Int32) (a3 : Nat → Int32) (a4 : Int32) (a5 a6 a7 a8 a9 : Nat → Int32) (a10 : Int32) (a11 : Nat → Int32) (a12 a13 a14 a15 a16 a17 : Int32) (a18 : Nat → Int32) (a19 : Int32) (a20 : Nat → Int32) (a21 : Int32) (a22 a23 a24 a25 : Nat → Int32) (a26 : Int32) (a27 a28 a29 a30 : Nat → Int32) (a31 : Int32) (a32 a33 : Nat → Int32) (a34 : Int32) (a35 a36 a37 a38 : Nat → Int32) (p0 p1 : Int32) (h0 : 0 ≤ a2) (h4 : a2 ≤ 4) (ca : 0 ≤ a4) (cb : a4 ≤ 5) (t0 : 0 ≤ a0) (t12 : a0 ≤ 12) (n0 : 0 ≤ a9 22) (n9 : a9 22 ≤ 9060) (tc : 0 < a4 → 0 < a0) : Ci l G yX10_soonest wsX10_soonest (rmL 2) [.ref (ad 0), .int p0, .int p1] (wX10 G ad a0 a1 a2 a3 a4 a5 a6 a7 a8 a9 a10 a11 a12 a13 a14 a15 a16 a17 a18 a19 a20 a21 a22 a23 a24 a25 a26 a27 a28 a29 a30 a31 a32 a33 a34 a35 a36 a37 a38) (rX10_soonest a0 a1 a2 a3 a4 a5 a7 a9 p0 p1) (wX10 G ad a0 a1 a2 a3 a4 a5 a6 a7 a8 a9 a10 a11 a12 a13 a14 a15 a16 a17 a18 a19 a20 a21 a22 a23 a24 a25 a26 a27 a28 a29 a30 a31 a32 a33 a34 a35 a36 a37 a38) := by
  refine ci_start .int (by decide) rfl rfl (Nat.le_of_ble_eq_true rfl) ?_
  intro p e s m args below meth c A X
  refine s_perm (lv2 := [(0, .ref (ad 0)), (1, .int p0), (2, .int p1)]) [0, 1, 2] rfl ?_
  refine s_aload_n X (pc := 0) (x := (ad 0)) 0 dX10_soonest_0 rfl ?_
  refine s_iload_n X (pc := 1) (x := p0) 1 dX10_soonest_1 rfl ?_
  refine s_callVi0 X (pc := 2) (r := rX10_isHut a2 p0) (w := wX10 G ad a0 a1 a2 a3 a4 a5 a6 a7 a8 a9 a10 a11 a12 a13 a14 a15 a16 a17 a18 a19 a20 a21 a22 a23 a24 a25 a26 a27 a28 a29 a30 a31 a32 a33 a34 a35 a36 a37 a38) (n := 1) (st := []) (As := [.int p0]) (w2 := wX10 G ad a0 a1 a2 a3 a4 a5 a6 a7 a8 a9 a10 a11 a12 a13 a14 a15 a16 a17 a18 a19 a20 a21 a22 a23 a24 a25 a26 a27 a28 a29 a30 a31 a32 a33 a34 a35 a36 a37 a38) 1 (c_X10_isHut l G ad a0 a1 a2 a3 a4 a5 a6 a7 a8 a9 a10 a11 a12 a13 a14 a15 a16 a17 a18 a19 a20 a21 a22 a23 a24 a25 a26 a27 a28 a29 a30 a31 a32 a33 a34 a35 a36 a37 a38 p0) gX10_soonest_X10_isHut rfl (by decide +kernel) ⟨Nat.le_of_ble_eq_true rfl, Nat.le_of_ble_eq_true rfl⟩ 0 rfl rfl rfl rfl (Nat.le_of_ble_eq_true rfl) (Nat.zero_le _) (Nat.zero_le _) dX10_soonest_2 ?_
  refine s_if_eq X (pc := 5) (tgt := 16) dX10_soonest_5 (by decide) (fun c5 => ?_) (fun c5 => ?_)
  ·
    refine s_ldc X (pc := 16) (v := -1000000001) kX10_soonest_c190 dX10_soonest_16 ?_
    exact s_iret X (pc := 18) (v := (-1000000001 : Int32)) dX10_soonest_18 (Eq.symm (show rX10_soonest a0 a1 a2 a3 a4 a5 a7 a9 p0 p1 = (-1000000001 : Int32) from (by unfold rX10_soonest; exact (if_pos c5)))) rfl
  ·
    have q5 := isHut_in h0 h4 c5
    refine s_aload_n X (pc := 8) (x := (ad 0)) 0 dX10_soonest_8 rfl ?_
    refine s_iload_n X (pc := 9) (x := p1) 2 dX10_soonest_9 rfl ?_
    refine s_callVi0 X (pc := 10) (r := rX10_isCase a4 p1) (w := wX10 G ad a0 a1 a2 a3 a4 a5 a6 a7 a8 a9 a10 a11 a12 a13 a14 a15 a16 a17 a18 a19 a20 a21 a22 a23 a24 a25 a26 a27 a28 a29 a30 a31 a32 a33 a34 a35 a36 a37 a38) (n := 1) (st := []) (As := [.int p1]) (w2 := wX10 G ad a0 a1 a2 a3 a4 a5 a6 a7 a8 a9 a10 a11 a12 a13 a14 a15 a16 a17 a18 a19 a20 a21 a22 a23 a24 a25 a26 a27 a28 a29 a30 a31 a32 a33 a34 a35 a36 a37 a38) 1 (c_X10_isCase l G ad a0 a1 a2 a3 a4 a5 a6 a7 a8 a9 a10 a11 a12 a13 a14 a15 a16 a17 a18 a19 a20 a21 a22 a23 a24 a25 a26 a27 a28 a29 a30 a31 a32 a33 a34 a35 a36 a37 a38 p1) gX10_soonest_X10_isCase rfl (by decide +kernel) ⟨Nat.le_of_ble_eq_true rfl, Nat.le_of_ble_eq_true rfl⟩ 0 rfl rfl rfl rfl (Nat.le_of_ble_eq_true rfl) (Nat.zero_le _) (Nat.zero_le _) dX10_soonest_10 ?_
    refine s_if_ne X (pc := 13) (tgt := 19) dX10_soonest_13 (by decide) (fun c13 => ?_) (fun c13 => ?_)
    ·
      have q13 := isCase_in ca cb c13
      have v13 : vp_in p1 5 := vin (b := 5) rfl q13.1 q13.2.1
      have tp : 0 < a0 := tc (by grind)
      refine s_aload_n X (pc := 19) (x := (ad 0)) 0 dX10_soonest_19 rfl ?_
      refine s_get X (pc := 20) (v := .ref (ad 10)) iX10_soonest_X10 0 rfl rfl 9 (by decide) kX10_soonest_28 rfl rfl dX10_soonest_20 ?_
      refine s_bipush X (pc := 23) (v := 8) dX10_soonest_23 (by decide) ?_
      refine s_iload_n X (pc := 25) (x := p0) 1 dX10_soonest_25 rfl ?_
      refine s_iadd X (pc := 26) dX10_soonest_26 ?_
      refine s_iald X (pc := 27) (n := 23) (f := a9) 7 rfl (by first | with_reducible assumption | exact vin (b := 23) rfl (by grind) (by grind)) dX10_soonest_27 ?_
      refine s_iconst X (pc := 28) (v := 1) dX10_soonest_28 (by decide) ?_
      refine s_icmp_ne X (pc := 29) (tgt := 36) dX10_soonest_29 (by decide) (fun c29 => ?_) (fun c29 => ?_)
      ·
        refine s_aload_n X (pc := 36) (x := (ad 0)) 0 dX10_soonest_36 rfl ?_
        refine s_get X (pc := 37) (v := .ref (ad 4)) iX10_soonest_X10 0 rfl rfl 3 (by decide) kX10_soonest_13 rfl rfl dX10_soonest_37 ?_
        refine s_iload_n X (pc := 40) (x := p0) 1 dX10_soonest_40 rfl ?_
        refine s_iald X (pc := 41) (n := 4) (f := a3) 2 rfl (by first | with_reducible assumption | exact vin (b := 4) rfl (by grind) (by grind)) dX10_soonest_41 ?_
        refine s_istore_n X (pc := 42) (i := 3) (lv2 := [(3, .int (a3 p0.toNatClampNeg)), (0, .ref (ad 0)), (1, .int p0), (2, .int p1)]) dX10_soonest_42 rfl (by decide) rfl ?_
        refine s_iconst X (pc := 43) (v := 0) dX10_soonest_43 (by decide) ?_
        refine s_istore X (pc := 44) (i := 4) (lv2 := [(4, .int (0 : Int32)), (3, .int (a3 p0.toNatClampNeg)), (0, .ref (ad 0)), (1, .int p0), (2, .int p1)]) dX10_soonest_44 (by decide) rfl ?_
        refine s_perm (lv2 := [(0, .ref (ad 0)), (1, .int p0), (2, .int p1), (3, .int (a3 p0.toNatClampNeg)), (4, .int (0 : Int32))]) [2, 3, 4, 1, 0] rfl ?_
        have L46 : (∀ F46 : Int32 × Int32 × Int32 × Int32, (aX10_soonest_46 a0 a1 a3 a5 a7 a9 p0 p1 32 (a3 p0.toNatClampNeg) (0 : Int32)) = F46 → F46.1 = 0 → Sm p l e (rmL 2) s m args below meth c G A 6 0 0 (Qci below G A args s (rX10_soonest a0 a1 a2 a3 a4 a5 a7 a9 p0 p1) (wX10 G ad a0 a1 a2 a3 a4 a5 a6 a7 a8 a9 a10 a11 a12 a13 a14 a15 a16 a17 a18 a19 a20 a21 a22 a23 a24 a25 a26 a27 a28 a29 a30 a31 a32 a33 a34 a35 a36 a37 a38)) 130 [(0, .ref (ad 0)), (1, .int p0), (2, .int p1), (3, .int F46.2.2.1), (4, .int F46.2.2.2)] [] (wX10 G ad a0 a1 a2 a3 a4 a5 a6 a7 a8 a9 a10 a11 a12 a13 a14 a15 a16 a17 a18 a19 a20 a21 a22 a23 a24 a25 a26 a27 a28 a29 a30 a31 a32 a33 a34 a35 a36 a37 a38)) → ∀ (n46 : Nat) (l3 : Int32) (l4 : Int32), (0 ≤ l4) → (l4 ≤ 31) → ((31 : Nat) - l4.toInt).toNat < n46 → (aX10_soonest_46 a0 a1 a3 a5 a7 a9 p0 p1 32 (a3 p0.toNatClampNeg) (0 : Int32)) = aX10_soonest_46 a0 a1 a3 a5 a7 a9 p0 p1 n46 l3 l4 → Sm p l e (rmL 2) s m args below meth c G A 6 0 0 (Qci below G A args s (rX10_soonest a0 a1 a2 a3 a4 a5 a7 a9 p0 p1) (wX10 G ad a0 a1 a2 a3 a4 a5 a6 a7 a8 a9 a10 a11 a12 a13 a14 a15 a16 a17 a18 a19 a20 a21 a22 a23 a24 a25 a26 a27 a28 a29 a30 a31 a32 a33 a34 a35 a36 a37 a38)) 46 [(0, .ref (ad 0)), (1, .int p0), (2, .int p1), (3, .int l3), (4, .int l4)] [] (wX10 G ad a0 a1 a2 a3 a4 a5 a6 a7 a8 a9 a10 a11 a12 a13 a14 a15 a16 a17 a18 a19 a20 a21 a22 a23 a24 a25 a26 a27 a28 a29 a30 a31 a32 a33 a34 a35 a36 a37 a38) := by
          intro E46 n46
          induction n46 with
          | zero => intro l3 l4 m0 m1 hm46 hv46; exact absurd hm46 (Nat.not_lt_zero _)
          | succ n46 ih46 =>
            intro l3 l4 m0 m1 hm46 hv46
            refine s_iload X (pc := 46) (x := l4) 4 dX10_soonest_46 rfl ?_
            refine s_bipush X (pc := 48) (v := 31) dX10_soonest_48 (by decide) ?_
            refine s_icmp_ge X (pc := 50) (tgt := 130) dX10_soonest_50 (by decide) (fun c50 => ?_) (fun c50 => ?_)
            ·
              refine s_perm (lv2 := [(0, .ref (ad 0)), (1, .int p0), (2, .int p1), (3, .int l3), (4, .int l4)]) [0, 1, 2, 3, 4] rfl ?_
              exact E46 ((0 : Int32), (0 : Int32), l3, l4) (hv46.trans (show aX10_soonest_46 a0 a1 a3 a5 a7 a9 p0 p1 (n46 + 1) l3 l4 = ((0 : Int32), (0 : Int32), l3, l4) from by rw [aX10_soonest_46]; exact (if_pos c50))) rfl 
            ·
              refine s_iconst X (pc := 53) (v := 0) dX10_soonest_53 (by decide) ?_
              refine s_istore X (pc := 54) (i := 5) (lv2 := [(5, .int (0 : Int32)), (0, .ref (ad 0)), (1, .int p0), (2, .int p1), (3, .int l3), (4, .int l4)]) dX10_soonest_54 (by decide) rfl ?_
              refine s_perm (lv2 := [(0, .ref (ad 0)), (1, .int p0), (2, .int p1), (3, .int l3), (4, .int l4), (5, .int (0 : Int32))]) [1, 2, 3, 4, 5, 0] rfl ?_
              have L56 : (∀ F56 : Int32 × Int32 × Int32, (aX10_soonest_56 a0 a1 a5 a7 a9 p0 p1 l3 l4 11 (0 : Int32)) = F56 → F56.1 = 0 → Sm p l e (rmL 2) s m args below meth c G A 6 0 0 (Qci below G A args s (rX10_soonest a0 a1 a2 a3 a4 a5 a7 a9 p0 p1) (wX10 G ad a0 a1 a2 a3 a4 a5 a6 a7 a8 a9 a10 a11 a12 a13 a14 a15 a16 a17 a18 a19 a20 a21 a22 a23 a24 a25 a26 a27 a28 a29 a30 a31 a32 a33 a34 a35 a36 a37 a38)) 115 [(0, .ref (ad 0)), (1, .int p0), (2, .int p1), (3, .int l3), (4, .int l4), (5, .int F56.2.2)] [] (wX10 G ad a0 a1 a2 a3 a4 a5 a6 a7 a8 a9 a10 a11 a12 a13 a14 a15 a16 a17 a18 a19 a20 a21 a22 a23 a24 a25 a26 a27 a28 a29 a30 a31 a32 a33 a34 a35 a36 a37 a38)) → ∀ (n56 : Nat) (il5 : Int32), ((10 : Nat) - il5.toInt).toNat < n56 → (aX10_soonest_56 a0 a1 a5 a7 a9 p0 p1 l3 l4 11 (0 : Int32)) = aX10_soonest_56 a0 a1 a5 a7 a9 p0 p1 l3 l4 n56 il5 → Sm p l e (rmL 2) s m args below meth c G A 6 0 0 (Qci below G A args s (rX10_soonest a0 a1 a2 a3 a4 a5 a7 a9 p0 p1) (wX10 G ad a0 a1 a2 a3 a4 a5 a6 a7 a8 a9 a10 a11 a12 a13 a14 a15 a16 a17 a18 a19 a20 a21 a22 a23 a24 a25 a26 a27 a28 a29 a30 a31 a32 a33 a34 a35 a36 a37 a38)) 56 [(0, .ref (ad 0)), (1, .int p0), (2, .int p1), (3, .int l3), (4, .int l4), (5, .int il5)] [] (wX10 G ad a0 a1 a2 a3 a4 a5 a6 a7 a8 a9 a10 a11 a12 a13 a14 a15 a16 a17 a18 a19 a20 a21 a22 a23 a24 a25 a26 a27 a28 a29 a30 a31 a32 a33 a34 a35 a36 a37 a38) := by
                intro E56 n56
                induction n56 with
                | zero => intro il5  hm56 hv56; exact absurd hm56 (Nat.not_lt_zero _)
                | succ n56 ih56 =>
                  intro il5  hm56 hv56
                  refine s_iload X (pc := 56) (x := il5) 5 dX10_soonest_56 rfl ?_
                  refine s_bipush X (pc := 58) (v := 10) dX10_soonest_58 (by decide) ?_
                  refine s_icmp_ge X (pc := 60) (tgt := 115) dX10_soonest_60 (by decide) (fun c60 => ?_) (fun c60 => ?_)
                  ·
                    refine s_perm (lv2 := [(0, .ref (ad 0)), (1, .int p0), (2, .int p1), (3, .int l3), (4, .int l4), (5, .int il5)]) [0, 1, 2, 3, 4, 5] rfl ?_
                    exact E56 ((0 : Int32), (0 : Int32), il5) (hv56.trans (show aX10_soonest_56 a0 a1 a5 a7 a9 p0 p1 l3 l4 (n56 + 1) il5 = ((0 : Int32), (0 : Int32), il5) from by rw [aX10_soonest_56]; exact (if_pos c60))) rfl 
                  ·
                    refine s_iload X (pc := 63) (x := il5) 5 dX10_soonest_63 rfl ?_
                    refine s_i2l X (pc := 65) dX10_soonest_65 ?_
                    refine s_aload_n X (pc := 66) (x := (ad 0)) 0 dX10_soonest_66 rfl ?_
                    refine s_get X (pc := 67) (v := .ref (ad 10)) iX10_soonest_X10 0 rfl rfl 9 (by decide) kX10_soonest_28 rfl rfl dX10_soonest_67 ?_
                    refine s_iload_n X (pc := 70) (x := p0) 1 dX10_soonest_70 rfl ?_
                    refine s_iald X (pc := 71) (n := 23) (f := a9) 7 rfl (by first | with_reducible assumption | exact vin (b := 23) rfl (by grind) (by grind)) dX10_soonest_71 ?_
                    refine s_iload_n X (pc := 72) (x := l3) 3 dX10_soonest_72 rfl ?_
                    refine s_isub X (pc := 73) dX10_soonest_73 ?_
                    refine s_i2l X (pc := 74) dX10_soonest_74 ?_
                    refine s_aload_n X (pc := 75) (x := (ad 0)) 0 dX10_soonest_75 rfl ?_
                    refine s_get X (pc := 76) (v := .ref (ad 10)) iX10_soonest_X10 0 rfl rfl 9 (by decide) kX10_soonest_28 rfl rfl dX10_soonest_76 ?_
                    refine s_iload_n X (pc := 79) (x := p0) 1 dX10_soonest_79 rfl ?_
                    refine s_iald X (pc := 80) (n := 23) (f := a9) 7 rfl (by first | with_reducible assumption | exact vin (b := 23) rfl (by grind) (by grind)) dX10_soonest_80 ?_
                    refine s_iload_n X (pc := 81) (x := l3) 3 dX10_soonest_81 rfl ?_
                    refine s_iadd X (pc := 82) dX10_soonest_82 ?_
                    refine s_i2l X (pc := 83) dX10_soonest_83 ?_
                    refine s_callSiN X (pc := 84) (r := rX10_in il5.toInt64 (((a9 p0.toNatClampNeg) - l3).toInt64) (((a9 p0.toNatClampNeg) + l3).toInt64)) (n := 3) (st := []) (As := [.long il5.toInt64, .long (((a9 p0.toNatClampNeg) - l3).toInt64), .long (((a9 p0.toNatClampNeg) + l3).toInt64)]) 0 (c_X10_in l G il5.toInt64 (((a9 p0.toNatClampNeg) - l3).toInt64) (((a9 p0.toNatClampNeg) + l3).toInt64)) gX10_soonest_X10_in rfl (by decide +kernel) ⟨Nat.le_of_ble_eq_true rfl, Nat.le_of_ble_eq_true rfl⟩ rfl rfl (Nat.le_of_ble_eq_true rfl) (Nat.zero_le _) (Nat.zero_le _) dX10_soonest_84 ?_
                    refine s_if_eq X (pc := 87) (tgt := 109) dX10_soonest_87 (by decide) (fun c87 => ?_) (fun c87 => ?_)
                    ·
                      refine s_iinc X (pc := 109) (v := il5 + (1 : Int32)) (lv2 := [(5, .int (il5 + (1 : Int32))), (0, .ref (ad 0)), (1, .int p0), (2, .int p1), (3, .int l3), (4, .int l4)]) 5 dX10_soonest_109 rfl rfl (by decide) rfl ?_
                      refine s_goto X (pc := 112) (tgt := 56) dX10_soonest_112 (by decide) ?_
                      refine s_perm (lv2 := [(0, .ref (ad 0)), (1, .int p0), (2, .int p1), (3, .int l3), (4, .int l4), (5, .int (il5 + (1 : Int32)))]) [1, 2, 3, 4, 5, 0] rfl ?_
                      exact ih56 (il5 + (1 : Int32)) (up_lt (b := 10) rfl (Int32.not_le.mp c60) hm56) (hv56.trans (show aX10_soonest_56 a0 a1 a5 a7 a9 p0 p1 l3 l4 (n56 + 1) il5 = aX10_soonest_56 a0 a1 a5 a7 a9 p0 p1 l3 l4 n56 (il5 + (1 : Int32)) from by rw [aX10_soonest_56]; exact ((if_neg c60).trans (if_pos c87))))
                    ·
                      refine s_aload_n X (pc := 90) (x := (ad 0)) 0 dX10_soonest_90 rfl ?_
                      refine s_iload_n X (pc := 91) (x := p1) 2 dX10_soonest_91 rfl ?_
                      refine s_aload_n X (pc := 92) (x := (ad 0)) 0 dX10_soonest_92 rfl ?_
                      refine s_iload X (pc := 93) (x := il5) 5 dX10_soonest_93 rfl ?_
                      refine s_iload X (pc := 95) (x := l4) 4 dX10_soonest_95 rfl ?_
                      refine s_callVi0 X (pc := 97) (r := rX10_depthBehind a0 a1 a9 il5 l4) (w := wX10 G ad a0 a1 a2 a3 a4 a5 a6 a7 a8 a9 a10 a11 a12 a13 a14 a15 a16 a17 a18 a19 a20 a21 a22 a23 a24 a25 a26 a27 a28 a29 a30 a31 a32 a33 a34 a35 a36 a37 a38) (n := 2) (st := [.int p1, .ref (ad 0)]) (As := [.int il5, .int l4]) (w2 := wX10 G ad a0 a1 a2 a3 a4 a5 a6 a7 a8 a9 a10 a11 a12 a13 a14 a15 a16 a17 a18 a19 a20 a21 a22 a23 a24 a25 a26 a27 a28 a29 a30 a31 a32 a33 a34 a35 a36 a37 a38) 0 (c_X10_depthBehind l G ad a0 a1 a2 a3 a4 a5 a6 a7 a8 a9 a10 a11 a12 a13 a14 a15 a16 a17 a18 a19 a20 a21 a22 a23 a24 a25 a26 a27 a28 a29 a30 a31 a32 a33 a34 a35 a36 a37 a38 il5 l4 tp t12 (by grind)) gX10_soonest_X10_depthBehind rfl (by decide +kernel) ⟨Nat.le_of_ble_eq_true rfl, Nat.le_of_ble_eq_true rfl⟩ 0 rfl rfl rfl rfl (Nat.le_of_ble_eq_true rfl) (Nat.zero_le _) (Nat.zero_le _) dX10_soonest_97 ?_
                      refine s_callVi0 X (pc := 100) (r := rX10_isDeepEnough a5 a7 p1 (rX10_depthBehind a0 a1 a9 il5 l4)) (w := wX10 G ad a0 a1 a2 a3 a4 a5 a6 a7 a8 a9 a10 a11 a12 a13 a14 a15 a16 a17 a18 a19 a20 a21 a22 a23 a24 a25 a26 a27 a28 a29 a30 a31 a32 a33 a34 a35 a36 a37 a38) (n := 2) (st := []) (As := [.int p1, .int (rX10_depthBehind a0 a1 a9 il5 l4)]) (w2 := wX10 G ad a0 a1 a2 a3 a4 a5 a6 a7 a8 a9 a10 a11 a12 a13 a14 a15 a16 a17 a18 a19 a20 a21 a22 a23 a24 a25 a26 a27 a28 a29 a30 a31 a32 a33 a34 a35 a36 a37 a38) 1 (c_X10_isDeepEnough l G ad a0 a1 a2 a3 a4 a5 a6 a7 a8 a9 a10 a11 a12 a13 a14 a15 a16 a17 a18 a19 a20 a21 a22 a23 a24 a25 a26 a27 a28 a29 a30 a31 a32 a33 a34 a35 a36 a37 a38 p1 (rX10_depthBehind a0 a1 a9 il5 l4) v13) gX10_soonest_X10_isDeepEnough rfl (by decide +kernel) ⟨Nat.le_of_ble_eq_true rfl, Nat.le_of_ble_eq_true rfl⟩ 0 rfl rfl rfl rfl (Nat.le_of_ble_eq_true rfl) (Nat.zero_le _) (Nat.zero_le _) dX10_soonest_100 ?_
                      refine s_if_eq X (pc := 103) (tgt := 109) dX10_soonest_103 (by decide) (fun c103 => ?_) (fun c103 => ?_)
                      ·
                        refine s_iinc X (pc := 109) (v := il5 + (1 : Int32)) (lv2 := [(5, .int (il5 + (1 : Int32))), (0, .ref (ad 0)), (1, .int p0), (2, .int p1), (3, .int l3), (4, .int l4)]) 5 dX10_soonest_109 rfl rfl (by decide) rfl ?_
                        refine s_goto X (pc := 112) (tgt := 56) dX10_soonest_112 (by decide) ?_
                        refine s_perm (lv2 := [(0, .ref (ad 0)), (1, .int p0), (2, .int p1), (3, .int l3), (4, .int l4), (5, .int (il5 + (1 : Int32)))]) [1, 2, 3, 4, 5, 0] rfl ?_
                        exact ih56 (il5 + (1 : Int32)) (up_lt (b := 10) rfl (Int32.not_le.mp c60) hm56) (hv56.trans (show aX10_soonest_56 a0 a1 a5 a7 a9 p0 p1 l3 l4 (n56 + 1) il5 = aX10_soonest_56 a0 a1 a5 a7 a9 p0 p1 l3 l4 n56 (il5 + (1 : Int32)) from by rw [aX10_soonest_56]; exact ((if_neg c60).trans ((if_neg c87).trans (if_pos c103)))))
                      ·
                        refine s_iload X (pc := 106) (x := l4) 4 dX10_soonest_106 rfl ?_
                        have hx56 : (aX10_soonest_56 a0 a1 a5 a7 a9 p0 p1 l3 l4 11 (0 : Int32)) = ((1 : Int32), l4, il5) := (hv56.trans (show aX10_soonest_56 a0 a1 a5 a7 a9 p0 p1 l3 l4 (n56 + 1) il5 = ((1 : Int32), l4, il5) from by rw [aX10_soonest_56]; exact ((if_neg c60).trans ((if_neg c87).trans (if_neg c103)))))
                        have hx46 : (aX10_soonest_46 a0 a1 a3 a5 a7 a9 p0 p1 32 (a3 p0.toNatClampNeg) (0 : Int32)) = ((1 : Int32), l4, l3, l4) := (hv46.trans (show aX10_soonest_46 a0 a1 a3 a5 a7 a9 p0 p1 (n46 + 1) l3 l4 = ((1 : Int32), l4, l3, l4) from by rw [aX10_soonest_46]; exact ((if_neg c50).trans (by rw [hx56]; exact if_pos rfl))))
                        exact s_iret X (pc := 108) (v := l4) dX10_soonest_108 (Eq.symm (show rX10_soonest a0 a1 a2 a3 a4 a5 a7 a9 p0 p1 = l4 from (by unfold rX10_soonest; exact ((if_neg c5).trans ((if_neg c13).trans ((if_neg c29).trans (by rw [hx46]; exact if_pos rfl))))))) rfl
              refine L56 ?_ 11 (0 : Int32) (m_lt (by decide)) rfl
              intro F56 hF56 hE56 
              have hN56 : ¬ F56.1 = 1 := by rw [hE56]; decide
              refine s_iload_n X (pc := 115) (x := l3) 3 dX10_soonest_115 rfl ?_
              refine s_aload_n X (pc := 116) (x := (ad 0)) 0 dX10_soonest_116 rfl ?_
              refine s_get X (pc := 117) (v := .ref (ad 4)) iX10_soonest_X10 0 rfl rfl 3 (by decide) kX10_soonest_13 rfl rfl dX10_soonest_117 ?_
              refine s_iload_n X (pc := 120) (x := p0) 1 dX10_soonest_120 rfl ?_
              refine s_iald X (pc := 121) (n := 4) (f := a3) 2 rfl (by first | with_reducible assumption | exact vin (b := 4) rfl (by grind) (by grind)) dX10_soonest_121 ?_
              refine s_iadd X (pc := 122) dX10_soonest_122 ?_
              refine s_istore_n X (pc := 123) (i := 3) (lv2 := [(3, .int (l3 + (a3 p0.toNatClampNeg))), (0, .ref (ad 0)), (1, .int p0), (2, .int p1), (4, .int l4), (5, .int (F56.2.2))]) dX10_soonest_123 rfl (by decide) rfl ?_
              refine s_iinc X (pc := 124) (v := l4 + (1 : Int32)) (lv2 := [(4, .int (l4 + (1 : Int32))), (3, .int (l3 + (a3 p0.toNatClampNeg))), (0, .ref (ad 0)), (1, .int p0), (2, .int p1), (5, .int (F56.2.2))]) 4 dX10_soonest_124 rfl rfl (by decide) rfl ?_
              refine s_goto X (pc := 127) (tgt := 46) dX10_soonest_127 (by decide) ?_
              subst hF56
              refine s_perm (lv2 := [(0, .ref (ad 0)), (1, .int p0), (2, .int p1), (3, .int (l3 + (a3 p0.toNatClampNeg))), (4, .int (l4 + (1 : Int32)))]) [2, 3, 4, 1, 0] rfl ?_
              exact ih46 (l3 + (a3 p0.toNatClampNeg)) (l4 + (1 : Int32)) (by grind) (by grind) (up_lt (b := 31) rfl (Int32.not_le.mp c50) hm46) (hv46.trans (show aX10_soonest_46 a0 a1 a3 a5 a7 a9 p0 p1 (n46 + 1) l3 l4 = aX10_soonest_46 a0 a1 a3 a5 a7 a9 p0 p1 n46 (l3 + (a3 p0.toNatClampNeg)) (l4 + (1 : Int32)) from by rw [aX10_soonest_46]; exact ((if_neg c50).trans (if_neg hN56))))
        refine L46 ?_ 32 (a3 p0.toNatClampNeg) (0 : Int32) (by decide) (by decide) (m_lt (by decide)) rfl
        intro F46 hF46 hE46 
        have hN46 : ¬ F46.1 = 1 := by rw [hE46]; decide
        refine s_iconst X (pc := 130) (v := -1) dX10_soonest_130 (by decide) ?_
        subst hF46
        exact s_iret X (pc := 131) (v := (-1 : Int32)) dX10_soonest_131 (Eq.symm (show rX10_soonest a0 a1 a2 a3 a4 a5 a7 a9 p0 p1 = (-1 : Int32) from (by unfold rX10_soonest; exact ((if_neg c5).trans ((if_neg c13).trans ((if_neg c29).trans (if_neg hN46))))))) rfl
      ·
        refine s_iconst X (pc := 32) (v := 0) dX10_soonest_32 (by decide) ?_
        refine s_goto X (pc := 33) (tgt := 42) dX10_soonest_33 (by decide) ?_
        refine s_istore_n X (pc := 42) (i := 3) (lv2 := [(3, .int (0 : Int32)), (0, .ref (ad 0)), (1, .int p0), (2, .int p1)]) dX10_soonest_42 rfl (by decide) rfl ?_
        refine s_iconst X (pc := 43) (v := 0) dX10_soonest_43 (by decide) ?_
        refine s_istore X (pc := 44) (i := 4) (lv2 := [(4, .int (0 : Int32)), (3, .int (0 : Int32)), (0, .ref (ad 0)), (1, .int p0), (2, .int p1)]) dX10_soonest_44 (by decide) rfl ?_
        refine s_perm (lv2 := [(0, .ref (ad 0)), (1, .int p0), (2, .int p1), (3, .int (0 : Int32)), (4, .int (0 : Int32))]) [2, 3, 4, 1, 0] rfl ?_
        have L46 : (∀ F46 : Int32 × Int32 × Int32 × Int32, (aX10_soonest_46 a0 a1 a3 a5 a7 a9 p0 p1 32 (0 : Int32) (0 : Int32)) = F46 → F46.1 = 0 → Sm p l e (rmL 2) s m args below meth c G A 6 0 0 (Qci below G A args s (rX10_soonest a0 a1 a2 a3 a4 a5 a7 a9 p0 p1) (wX10 G ad a0 a1 a2 a3 a4 a5 a6 a7 a8 a9 a10 a11 a12 a13 a14 a15 a16 a17 a18 a19 a20 a21 a22 a23 a24 a25 a26 a27 a28 a29 a30 a31 a32 a33 a34 a35 a36 a37 a38)) 130 [(0, .ref (ad 0)), (1, .int p0), (2, .int p1), (3, .int F46.2.2.1), (4, .int F46.2.2.2)] [] (wX10 G ad a0 a1 a2 a3 a4 a5 a6 a7 a8 a9 a10 a11 a12 a13 a14 a15 a16 a17 a18 a19 a20 a21 a22 a23 a24 a25 a26 a27 a28 a29 a30 a31 a32 a33 a34 a35 a36 a37 a38)) → ∀ (n46 : Nat) (l3 : Int32) (l4 : Int32), (0 ≤ l4) → (l4 ≤ 31) → ((31 : Nat) - l4.toInt).toNat < n46 → (aX10_soonest_46 a0 a1 a3 a5 a7 a9 p0 p1 32 (0 : Int32) (0 : Int32)) = aX10_soonest_46 a0 a1 a3 a5 a7 a9 p0 p1 n46 l3 l4 → Sm p l e (rmL 2) s m args below meth c G A 6 0 0 (Qci below G A args s (rX10_soonest a0 a1 a2 a3 a4 a5 a7 a9 p0 p1) (wX10 G ad a0 a1 a2 a3 a4 a5 a6 a7 a8 a9 a10 a11 a12 a13 a14 a15 a16 a17 a18 a19 a20 a21 a22 a23 a24 a25 a26 a27 a28 a29 a30 a31 a32 a33 a34 a35 a36 a37 a38)) 46 [(0, .ref (ad 0)), (1, .int p0), (2, .int p1), (3, .int l3), (4, .int l4)] [] (wX10 G ad a0 a1 a2 a3 a4 a5 a6 a7 a8 a9 a10 a11 a12 a13 a14 a15 a16 a17 a18 a19 a20 a21 a22 a23 a24 a25 a26 a27 a28 a29 a30 a31 a32 a33 a34 a35 a36 a37 a38) := by
          intro E46 n46
          induction n46 with
          | zero => intro l3 l4 m0 m1 hm46 hv46; exact absurd hm46 (Nat.not_lt_zero _)
          | succ n46 ih46 =>
            intro l3 l4 m0 m1 hm46 hv46
            refine s_iload X (pc := 46) (x := l4) 4 dX10_soonest_46 rfl ?_
            refine s_bipush X (pc := 48) (v := 31) dX10_soonest_48 (by decide) ?_
            refine s_icmp_ge X (pc := 50) (tgt := 130) dX10_soonest_50 (by decide) (fun c50 => ?_) (fun c50 => ?_)
            ·
              refine s_perm (lv2 := [(0, .ref (ad 0)), (1, .int p0), (2, .int p1), (3, .int l3), (4, .int l4)]) [0, 1, 2, 3, 4] rfl ?_
              exact E46 ((0 : Int32), (0 : Int32), l3, l4) (hv46.trans (show aX10_soonest_46 a0 a1 a3 a5 a7 a9 p0 p1 (n46 + 1) l3 l4 = ((0 : Int32), (0 : Int32), l3, l4) from by rw [aX10_soonest_46]; exact (if_pos c50))) rfl 
            ·
              refine s_iconst X (pc := 53) (v := 0) dX10_soonest_53 (by decide) ?_
              refine s_istore X (pc := 54) (i := 5) (lv2 := [(5, .int (0 : Int32)), (0, .ref (ad 0)), (1, .int p0), (2, .int p1), (3, .int l3), (4, .int l4)]) dX10_soonest_54 (by decide) rfl ?_
              refine s_perm (lv2 := [(0, .ref (ad 0)), (1, .int p0), (2, .int p1), (3, .int l3), (4, .int l4), (5, .int (0 : Int32))]) [1, 2, 3, 4, 5, 0] rfl ?_
              have L56 : (∀ F56 : Int32 × Int32 × Int32, (aX10_soonest_56 a0 a1 a5 a7 a9 p0 p1 l3 l4 11 (0 : Int32)) = F56 → F56.1 = 0 → Sm p l e (rmL 2) s m args below meth c G A 6 0 0 (Qci below G A args s (rX10_soonest a0 a1 a2 a3 a4 a5 a7 a9 p0 p1) (wX10 G ad a0 a1 a2 a3 a4 a5 a6 a7 a8 a9 a10 a11 a12 a13 a14 a15 a16 a17 a18 a19 a20 a21 a22 a23 a24 a25 a26 a27 a28 a29 a30 a31 a32 a33 a34 a35 a36 a37 a38)) 115 [(0, .ref (ad 0)), (1, .int p0), (2, .int p1), (3, .int l3), (4, .int l4), (5, .int F56.2.2)] [] (wX10 G ad a0 a1 a2 a3 a4 a5 a6 a7 a8 a9 a10 a11 a12 a13 a14 a15 a16 a17 a18 a19 a20 a21 a22 a23 a24 a25 a26 a27 a28 a29 a30 a31 a32 a33 a34 a35 a36 a37 a38)) → ∀ (n56 : Nat) (il5 : Int32), ((10 : Nat) - il5.toInt).toNat < n56 → (aX10_soonest_56 a0 a1 a5 a7 a9 p0 p1 l3 l4 11 (0 : Int32)) = aX10_soonest_56 a0 a1 a5 a7 a9 p0 p1 l3 l4 n56 il5 → Sm p l e (rmL 2) s m args below meth c G A 6 0 0 (Qci below G A args s (rX10_soonest a0 a1 a2 a3 a4 a5 a7 a9 p0 p1) (wX10 G ad a0 a1 a2 a3 a4 a5 a6 a7 a8 a9 a10 a11 a12 a13 a14 a15 a16 a17 a18 a19 a20 a21 a22 a23 a24 a25 a26 a27 a28 a29 a30 a31 a32 a33 a34 a35 a36 a37 a38)) 56 [(0, .ref (ad 0)), (1, .int p0), (2, .int p1), (3, .int l3), (4, .int l4), (5, .int il5)] [] (wX10 G ad a0 a1 a2 a3 a4 a5 a6 a7 a8 a9 a10 a11 a12 a13 a14 a15 a16 a17 a18 a19 a20 a21 a22 a23 a24 a25 a26 a27 a28 a29 a30 a31 a32 a33 a34 a35 a36 a37 a38) := by
                intro E56 n56
                induction n56 with
                | zero => intro il5  hm56 hv56; exact absurd hm56 (Nat.not_lt_zero _)
                | succ n56 ih56 =>
                  intro il5  hm56 hv56
                  refine s_iload X (pc := 56) (x := il5) 5 dX10_soonest_56 rfl ?_
                  refine s_bipush X (pc := 58) (v := 10) dX10_soonest_58 (by decide) ?_
                  refine s_icmp_ge X (pc := 60) (tgt := 115) dX10_soonest_60 (by decide) (fun c60 => ?_) (fun c60 => ?_)
                  ·
                    refine s_perm (lv2 := [(0, .ref (ad 0)), (1, .int p0), (2, .int p1), (3, .int l3), (4, .int l4), (5, .int il5)]) [0, 1, 2, 3, 4, 5] rfl ?_
                    exact E56 ((0 : Int32), (0 : Int32), il5) (hv56.trans (show aX10_soonest_56 a0 a1 a5 a7 a9 p0 p1 l3 l4 (n56 + 1) il5 = ((0 : Int32), (0 : Int32), il5) from by rw [aX10_soonest_56]; exact (if_pos c60))) rfl 
                  ·
                    refine s_iload X (pc := 63) (x := il5) 5 dX10_soonest_63 rfl ?_
                    refine s_i2l X (pc := 65) dX10_soonest_65 ?_
                    refine s_aload_n X (pc := 66) (x := (ad 0)) 0 dX10_soonest_66 rfl ?_
                    refine s_get X (pc := 67) (v := .ref (ad 10)) iX10_soonest_X10 0 rfl rfl 9 (by decide) kX10_soonest_28 rfl rfl dX10_soonest_67 ?_
                    refine s_iload_n X (pc := 70) (x := p0) 1 dX10_soonest_70 rfl ?_
                    refine s_iald X (pc := 71) (n := 23) (f := a9) 7 rfl (by first | with_reducible assumption | exact vin (b := 23) rfl (by grind) (by grind)) dX10_soonest_71 ?_
                    refine s_iload_n X (pc := 72) (x := l3) 3 dX10_soonest_72 rfl ?_
                    refine s_isub X (pc := 73) dX10_soonest_73 ?_
                    refine s_i2l X (pc := 74) dX10_soonest_74 ?_
                    refine s_aload_n X (pc := 75) (x := (ad 0)) 0 dX10_soonest_75 rfl ?_
                    refine s_get X (pc := 76) (v := .ref (ad 10)) iX10_soonest_X10 0 rfl rfl 9 (by decide) kX10_soonest_28 rfl rfl dX10_soonest_76 ?_
                    refine s_iload_n X (pc := 79) (x := p0) 1 dX10_soonest_79 rfl ?_
                    refine s_iald X (pc := 80) (n := 23) (f := a9) 7 rfl (by first | with_reducible assumption | exact vin (b := 23) rfl (by grind) (by grind)) dX10_soonest_80 ?_
                    refine s_iload_n X (pc := 81) (x := l3) 3 dX10_soonest_81 rfl ?_
                    refine s_iadd X (pc := 82) dX10_soonest_82 ?_
                    refine s_i2l X (pc := 83) dX10_soonest_83 ?_
                    refine s_callSiN X (pc := 84) (r := rX10_in il5.toInt64 (((a9 p0.toNatClampNeg) - l3).toInt64) (((a9 p0.toNatClampNeg) + l3).toInt64)) (n := 3) (st := []) (As := [.long il5.toInt64, .long (((a9 p0.toNatClampNeg) - l3).toInt64), .long (((a9 p0.toNatClampNeg) + l3).toInt64)]) 0 (c_X10_in l G il5.toInt64 (((a9 p0.toNatClampNeg) - l3).toInt64) (((a9 p0.toNatClampNeg) + l3).toInt64)) gX10_soonest_X10_in rfl (by decide +kernel) ⟨Nat.le_of_ble_eq_true rfl, Nat.le_of_ble_eq_true rfl⟩ rfl rfl (Nat.le_of_ble_eq_true rfl) (Nat.zero_le _) (Nat.zero_le _) dX10_soonest_84 ?_
                    refine s_if_eq X (pc := 87) (tgt := 109) dX10_soonest_87 (by decide) (fun c87 => ?_) (fun c87 => ?_)
                    ·
                      refine s_iinc X (pc := 109) (v := il5 + (1 : Int32)) (lv2 := [(5, .int (il5 + (1 : Int32))), (0, .ref (ad 0)), (1, .int p0), (2, .int p1), (3, .int l3), (4, .int l4)]) 5 dX10_soonest_109 rfl rfl (by decide) rfl ?_
                      refine s_goto X (pc := 112) (tgt := 56) dX10_soonest_112 (by decide) ?_
                      refine s_perm (lv2 := [(0, .ref (ad 0)), (1, .int p0), (2, .int p1), (3, .int l3), (4, .int l4), (5, .int (il5 + (1 : Int32)))]) [1, 2, 3, 4, 5, 0] rfl ?_
                      exact ih56 (il5 + (1 : Int32)) (up_lt (b := 10) rfl (Int32.not_le.mp c60) hm56) (hv56.trans (show aX10_soonest_56 a0 a1 a5 a7 a9 p0 p1 l3 l4 (n56 + 1) il5 = aX10_soonest_56 a0 a1 a5 a7 a9 p0 p1 l3 l4 n56 (il5 + (1 : Int32)) from by rw [aX10_soonest_56]; exact ((if_neg c60).trans (if_pos c87))))
                    ·
                      refine s_aload_n X (pc := 90) (x := (ad 0)) 0 dX10_soonest_90 rfl ?_
                      refine s_iload_n X (pc := 91) (x := p1) 2 dX10_soonest_91 rfl ?_
                      refine s_aload_n X (pc := 92) (x := (ad 0)) 0 dX10_soonest_92 rfl ?_
                      refine s_iload X (pc := 93) (x := il5) 5 dX10_soonest_93 rfl ?_
                      refine s_iload X (pc := 95) (x := l4) 4 dX10_soonest_95 rfl ?_
                      refine s_callVi0 X (pc := 97) (r := rX10_depthBehind a0 a1 a9 il5 l4) (w := wX10 G ad a0 a1 a2 a3 a4 a5 a6 a7 a8 a9 a10 a11 a12 a13 a14 a15 a16 a17 a18 a19 a20 a21 a22 a23 a24 a25 a26 a27 a28 a29 a30 a31 a32 a33 a34 a35 a36 a37 a38) (n := 2) (st := [.int p1, .ref (ad 0)]) (As := [.int il5, .int l4]) (w2 := wX10 G ad a0 a1 a2 a3 a4 a5 a6 a7 a8 a9 a10 a11 a12 a13 a14 a15 a16 a17 a18 a19 a20 a21 a22 a23 a24 a25 a26 a27 a28 a29 a30 a31 a32 a33 a34 a35 a36 a37 a38) 0 (c_X10_depthBehind l G ad a0 a1 a2 a3 a4 a5 a6 a7 a8 a9 a10 a11 a12 a13 a14 a15 a16 a17 a18 a19 a20 a21 a22 a23 a24 a25 a26 a27 a28 a29 a30 a31 a32 a33 a34 a35 a36 a37 a38 il5 l4 tp t12 (by grind)) gX10_soonest_X10_depthBehind rfl (by decide +kernel) ⟨Nat.le_of_ble_eq_true rfl, Nat.le_of_ble_eq_true rfl⟩ 0 rfl rfl rfl rfl (Nat.le_of_ble_eq_true rfl) (Nat.zero_le _) (Nat.zero_le _) dX10_soonest_97 ?_
                      refine s_callVi0 X (pc := 100) (r := rX10_isDeepEnough a5 a7 p1 (rX10_depthBehind a0 a1 a9 il5 l4)) (w := wX10 G ad a0 a1 a2 a3 a4 a5 a6 a7 a8 a9 a10 a11 a12 a13 a14 a15 a16 a17 a18 a19 a20 a21 a22 a23 a24 a25 a26 a27 a28 a29 a30 a31 a32 a33 a34 a35 a36 a37 a38) (n := 2) (st := []) (As := [.int p1, .int (rX10_depthBehind a0 a1 a9 il5 l4)]) (w2 := wX10 G ad a0 a1 a2 a3 a4 a5 a6 a7 a8 a9 a10 a11 a12 a13 a14 a15 a16 a17 a18 a19 a20 a21 a22 a23 a24 a25 a26 a27 a28 a29 a30 a31 a32 a33 a34 a35 a36 a37 a38) 1 (c_X10_isDeepEnough l G ad a0 a1 a2 a3 a4 a5 a6 a7 a8 a9 a10 a11 a12 a13 a14 a15 a16 a17 a18 a19 a20 a21 a22 a23 a24 a25 a26 a27 a28 a29 a30 a31 a32 a33 a34 a35 a36 a37 a38 p1 (rX10_depthBehind a0 a1 a9 il5 l4) v13) gX10_soonest_X10_isDeepEnough rfl (by decide +kernel) ⟨Nat.le_of_ble_eq_true rfl, Nat.le_of_ble_eq_true rfl⟩ 0 rfl rfl rfl rfl (Nat.le_of_ble_eq_true rfl) (Nat.zero_le _) (Nat.zero_le _) dX10_soonest_100 ?_
                      refine s_if_eq X (pc := 103) (tgt := 109) dX10_soonest_103 (by decide) (fun c103 => ?_) (fun c103 => ?_)
                      ·
                        refine s_iinc X (pc := 109) (v := il5 + (1 : Int32)) (lv2 := [(5, .int (il5 + (1 : Int32))), (0, .ref (ad 0)), (1, .int p0), (2, .int p1), (3, .int l3), (4, .int l4)]) 5 dX10_soonest_109 rfl rfl (by decide) rfl ?_
                        refine s_goto X (pc := 112) (tgt := 56) dX10_soonest_112 (by decide) ?_
                        refine s_perm (lv2 := [(0, .ref (ad 0)), (1, .int p0), (2, .int p1), (3, .int l3), (4, .int l4), (5, .int (il5 + (1 : Int32)))]) [1, 2, 3, 4, 5, 0] rfl ?_
                        exact ih56 (il5 + (1 : Int32)) (up_lt (b := 10) rfl (Int32.not_le.mp c60) hm56) (hv56.trans (show aX10_soonest_56 a0 a1 a5 a7 a9 p0 p1 l3 l4 (n56 + 1) il5 = aX10_soonest_56 a0 a1 a5 a7 a9 p0 p1 l3 l4 n56 (il5 + (1 : Int32)) from by rw [aX10_soonest_56]; exact ((if_neg c60).trans ((if_neg c87).trans (if_pos c103)))))
                      ·
                        refine s_iload X (pc := 106) (x := l4) 4 dX10_soonest_106 rfl ?_
                        have hx56 : (aX10_soonest_56 a0 a1 a5 a7 a9 p0 p1 l3 l4 11 (0 : Int32)) = ((1 : Int32), l4, il5) := (hv56.trans (show aX10_soonest_56 a0 a1 a5 a7 a9 p0 p1 l3 l4 (n56 + 1) il5 = ((1 : Int32), l4, il5) from by rw [aX10_soonest_56]; exact ((if_neg c60).trans ((if_neg c87).trans (if_neg c103)))))
                        have hx46 : (aX10_soonest_46 a0 a1 a3 a5 a7 a9 p0 p1 32 (0 : Int32) (0 : Int32)) = ((1 : Int32), l4, l3, l4) := (hv46.trans (show aX10_soonest_46 a0 a1 a3 a5 a7 a9 p0 p1 (n46 + 1) l3 l4 = ((1 : Int32), l4, l3, l4) from by rw [aX10_soonest_46]; exact ((if_neg c50).trans (by rw [hx56]; exact if_pos rfl))))
                        exact s_iret X (pc := 108) (v := l4) dX10_soonest_108 (Eq.symm (show rX10_soonest a0 a1 a2 a3 a4 a5 a7 a9 p0 p1 = l4 from (by unfold rX10_soonest; exact ((if_neg c5).trans ((if_neg c13).trans ((if_pos c29).trans (by rw [hx46]; exact if_pos rfl))))))) rfl
              refine L56 ?_ 11 (0 : Int32) (m_lt (by decide)) rfl
              intro F56 hF56 hE56 
              have hN56 : ¬ F56.1 = 1 := by rw [hE56]; decide
              refine s_iload_n X (pc := 115) (x := l3) 3 dX10_soonest_115 rfl ?_
              refine s_aload_n X (pc := 116) (x := (ad 0)) 0 dX10_soonest_116 rfl ?_
              refine s_get X (pc := 117) (v := .ref (ad 4)) iX10_soonest_X10 0 rfl rfl 3 (by decide) kX10_soonest_13 rfl rfl dX10_soonest_117 ?_
              refine s_iload_n X (pc := 120) (x := p0) 1 dX10_soonest_120 rfl ?_
              refine s_iald X (pc := 121) (n := 4) (f := a3) 2 rfl (by first | with_reducible assumption | exact vin (b := 4) rfl (by grind) (by grind)) dX10_soonest_121 ?_
              refine s_iadd X (pc := 122) dX10_soonest_122 ?_
              refine s_istore_n X (pc := 123) (i := 3) (lv2 := [(3, .int (l3 + (a3 p0.toNatClampNeg))), (0, .ref (ad 0)), (1, .int p0), (2, .int p1), (4, .int l4), (5, .int (F56.2.2))]) dX10_soonest_123 rfl (by decide) rfl ?_
              refine s_iinc X (pc := 124) (v := l4 + (1 : Int32)) (lv2 := [(4, .int (l4 + (1 : Int32))), (3, .int (l3 + (a3 p0.toNatClampNeg))), (0, .ref (ad 0)), (1, .int p0), (2, .int p1), (5, .int (F56.2.2))]) 4 dX10_soonest_124 rfl rfl (by decide) rfl ?_
              refine s_goto X (pc := 127) (tgt := 46) dX10_soonest_127 (by decide) ?_
              subst hF56
              refine s_perm (lv2 := [(0, .ref (ad 0)), (1, .int p0), (2, .int p1), (3, .int (l3 + (a3 p0.toNatClampNeg))), (4, .int (l4 + (1 : Int32)))]) [2, 3, 4, 1, 0] rfl ?_
              exact ih46 (l3 + (a3 p0.toNatClampNeg)) (l4 + (1 : Int32)) (by grind) (by grind) (up_lt (b := 31) rfl (Int32.not_le.mp c50) hm46) (hv46.trans (show aX10_soonest_46 a0 a1 a3 a5 a7 a9 p0 p1 (n46 + 1) l3 l4 = aX10_soonest_46 a0 a1 a3 a5 a7 a9 p0 p1 n46 (l3 + (a3 p0.toNatClampNeg)) (l4 + (1 : Int32)) from by rw [aX10_soonest_46]; exact ((if_neg c50).trans (if_neg hN56))))
        refine L46 ?_ 32 (0 : Int32) (0 : Int32) (by decide) (by decide) (m_lt (by decide)) rfl
        intro F46 hF46 hE46 
        have hN46 : ¬ F46.1 = 1 := by rw [hE46]; decide
        refine s_iconst X (pc := 130) (v := -1) dX10_soonest_130 (by decide) ?_
        subst hF46
        exact s_iret X (pc := 131) (v := (-1 : Int32)) dX10_soonest_131 (Eq.symm (show rX10_soonest a0 a1 a2 a3 a4 a5 a7 a9 p0 p1 = (-1 : Int32) from (by unfold rX10_soonest; exact ((if_neg c5).trans ((if_neg c13).trans ((if_pos c29).trans (if_neg hN46))))))) rfl
    ·
      refine s_ldc X (pc := 16) (v := -1000000001) kX10_soonest_c190 dX10_soonest_16 ?_
      exact s_iret X (pc := 18) (v := (-1000000001 : Int32)) dX10_soonest_18 (Eq.symm (show rX10_soonest a0 a1 a2 a3 a4 a5 a7 a9 p0 p1 = (-1000000001 : Int32) from (by unfold rX10_soonest; exact ((if_neg c5).trans (if_pos c13))))) rfl

theorem iX10_offer_X10 : ∀ z ∈ wsX100, z ∈ wsX10_offer := fun z h => List.mem_cons_of_mem _ (List.mem_append_right _ h)
theorem kX10_offer_l257 : Jvm.Cond.constantLong RX10 257 (100) ∈ wsX10_offer := List.mem_of_getElem? (i := 2) rfl
theorem kX10_offer_c101 : Jvm.Cond.constant RX10 101 (-1000000002) ∈ wsX10_offer := List.mem_of_getElem? (i := 4) rfl
theorem kX10_offer_l259 : Jvm.Cond.constantLong RX10 259 (999) ∈ wsX10_offer := List.mem_of_getElem? (i := 3) rfl
theorem kX10_offer_25 : Cond.fieldLink RX10 25 "BathingCourtModel" (TX10 8).2.1 (TX10 8).2.2.1 ∈ wsX10_offer := List.mem_of_getElem? (i := 5) rfl
theorem kX10_offer_c190 : Jvm.Cond.constant RX10 190 (-1000000001) ∈ wsX10_offer := List.mem_of_getElem? (i := 1) rfl
def rX10_offer (a4 : Int32) (a8 : Nat → Int32) (p0 p1 p2 p3 : Int32) : Int32 := if (rX10_isCase a4 p0) = 0 then (-1000000001 : Int32) else (if (rX10_in p1.toInt64 (0 : Int64) (100 : Int64)) = 0 then (-1000000002 : Int32) else (if (rX10_in p2.toInt64 (0 : Int64) (999 : Int64)) = 0 then (-1000000002 : Int32) else (if (rX10_in p3.toInt64 (0 : Int64) (1 : Int64)) = 0 then (-1000000002 : Int32) else (if p3 = (1 : Int32) then ((((a8 p0.toNatClampNeg) * p1) / (100 : Int32)) + p2) else (if (((a8 p0.toNatClampNeg) * p1) / (100 : Int32)) ≤ p2 then (0 : Int32) else ((((a8 p0.toNatClampNeg) * p1) / (100 : Int32)) - p2))))))
set_option maxRecDepth 100000 in
set_option maxHeartbeats 4000000 in
theorem c_X10_offer (l : Launch) (G : GT) (ad : Nat → Nat) (a0 : Int32) (a1 : Nat → Int32) (a2 : Int32) (a3 : Nat → Int32) (a4 : Int32) (a5 a6 a7 a8 a9 : Nat → Int32) (a10 : Int32) (a11 : Nat → Int32) (a12 a13 a14 a15 a16 a17 : Int32) (a18 : Nat → Int32) (a19 : Int32) (a20 : Nat → Int32) (a21 : Int32) (a22 a23 a24 a25 : Nat → Int32) (a26 : Int32) (a27 a28 a29 a30 : Nat → Int32) (a31 : Int32) (a32 a33 : Nat → Int32) (a34 : Int32) (a35 a36 a37 a38 : Nat → Int32) (p0 p1 p2 p3 : Int32) (ca : 0 ≤ a4) (cb : a4 ≤ 5) : Ci l G yX10_offer wsX10_offer (rmL 2) [.ref (ad 0), .int p0, .int p1, .int p2, .int p3] (wX10 G ad a0 a1 a2 a3 a4 a5 a6 a7 a8 a9 a10 a11 a12 a13 a14 a15 a16 a17 a18 a19 a20 a21 a22 a23 a24 a25 a26 a27 a28 a29 a30 a31 a32 a33 a34 a35 a36 a37 a38) (rX10_offer a4 a8 p0 p1 p2 p3) (wX10 G ad a0 a1 a2 a3 a4 a5 a6 a7 a8 a9 a10 a11 a12 a13 a14 a15 a16 a17 a18 a19 a20 a21 a22 a23 a24 a25 a26 a27 a28 a29 a30 a31 a32 a33 a34 a35 a36 a37 a38) := by
  refine ci_start .int (by decide) rfl rfl (Nat.le_of_ble_eq_true rfl) ?_
  intro p e s m args below meth c A X
  refine s_perm (lv2 := [(0, .ref (ad 0)), (1, .int p0), (2, .int p1), (3, .int p2), (4, .int p3)]) [0, 1, 2, 3, 4] rfl ?_
  refine s_aload_n X (pc := 0) (x := (ad 0)) 0 dX10_offer_0 rfl ?_
  refine s_iload_n X (pc := 1) (x := p0) 1 dX10_offer_1 rfl ?_
  refine s_callVi0 X (pc := 2) (r := rX10_isCase a4 p0) (w := wX10 G ad a0 a1 a2 a3 a4 a5 a6 a7 a8 a9 a10 a11 a12 a13 a14 a15 a16 a17 a18 a19 a20 a21 a22 a23 a24 a25 a26 a27 a28 a29 a30 a31 a32 a33 a34 a35 a36 a37 a38) (n := 1) (st := []) (As := [.int p0]) (w2 := wX10 G ad a0 a1 a2 a3 a4 a5 a6 a7 a8 a9 a10 a11 a12 a13 a14 a15 a16 a17 a18 a19 a20 a21 a22 a23 a24 a25 a26 a27 a28 a29 a30 a31 a32 a33 a34 a35 a36 a37 a38) 1 (c_X10_isCase l G ad a0 a1 a2 a3 a4 a5 a6 a7 a8 a9 a10 a11 a12 a13 a14 a15 a16 a17 a18 a19 a20 a21 a22 a23 a24 a25 a26 a27 a28 a29 a30 a31 a32 a33 a34 a35 a36 a37 a38 p0) gX10_offer_X10_isCase rfl (by decide +kernel) ⟨Nat.le_of_ble_eq_true rfl, Nat.le_of_ble_eq_true rfl⟩ 0 rfl rfl rfl rfl (Nat.le_of_ble_eq_true rfl) (Nat.zero_le _) (Nat.zero_le _) dX10_offer_2 ?_
  refine s_if_ne X (pc := 5) (tgt := 11) dX10_offer_5 (by decide) (fun c5 => ?_) (fun c5 => ?_)
  ·
    have q5 := isCase_in ca cb c5
    refine s_iload_n X (pc := 11) (x := p1) 2 dX10_offer_11 rfl ?_
    refine s_i2l X (pc := 12) dX10_offer_12 ?_
    refine s_lconst X (pc := 13) (v := 0) dX10_offer_13 (by decide) ?_
    refine s_ldc2 X (pc := 14) (v := 100) kX10_offer_l257 dX10_offer_14 ?_
    refine s_callSiN X (pc := 17) (r := rX10_in p1.toInt64 (0 : Int64) (100 : Int64)) (n := 3) (st := []) (As := [.long p1.toInt64, .long (0 : Int64), .long (100 : Int64)]) 0 (c_X10_in l G p1.toInt64 (0 : Int64) (100 : Int64)) gX10_offer_X10_in rfl (by decide +kernel) ⟨Nat.le_of_ble_eq_true rfl, Nat.le_of_ble_eq_true rfl⟩ rfl rfl (Nat.le_of_ble_eq_true rfl) (Nat.zero_le _) (Nat.zero_le _) dX10_offer_17 ?_
    refine s_if_eq X (pc := 20) (tgt := 46) dX10_offer_20 (by decide) (fun c20 => ?_) (fun c20 => ?_)
    ·
      refine s_ldc X (pc := 46) (v := -1000000002) kX10_offer_c101 dX10_offer_46 ?_
      exact s_iret X (pc := 48) (v := (-1000000002 : Int32)) dX10_offer_48 (Eq.symm (show rX10_offer a4 a8 p0 p1 p2 p3 = (-1000000002 : Int32) from (by unfold rX10_offer; exact ((if_neg c5).trans (if_pos c20))))) rfl
    ·
      refine s_iload_n X (pc := 23) (x := p2) 3 dX10_offer_23 rfl ?_
      refine s_i2l X (pc := 24) dX10_offer_24 ?_
      refine s_lconst X (pc := 25) (v := 0) dX10_offer_25 (by decide) ?_
      refine s_ldc2 X (pc := 26) (v := 999) kX10_offer_l259 dX10_offer_26 ?_
      refine s_callSiN X (pc := 29) (r := rX10_in p2.toInt64 (0 : Int64) (999 : Int64)) (n := 3) (st := []) (As := [.long p2.toInt64, .long (0 : Int64), .long (999 : Int64)]) 0 (c_X10_in l G p2.toInt64 (0 : Int64) (999 : Int64)) gX10_offer_X10_in rfl (by decide +kernel) ⟨Nat.le_of_ble_eq_true rfl, Nat.le_of_ble_eq_true rfl⟩ rfl rfl (Nat.le_of_ble_eq_true rfl) (Nat.zero_le _) (Nat.zero_le _) dX10_offer_29 ?_
      refine s_if_eq X (pc := 32) (tgt := 46) dX10_offer_32 (by decide) (fun c32 => ?_) (fun c32 => ?_)
      ·
        refine s_ldc X (pc := 46) (v := -1000000002) kX10_offer_c101 dX10_offer_46 ?_
        exact s_iret X (pc := 48) (v := (-1000000002 : Int32)) dX10_offer_48 (Eq.symm (show rX10_offer a4 a8 p0 p1 p2 p3 = (-1000000002 : Int32) from (by unfold rX10_offer; exact ((if_neg c5).trans ((if_neg c20).trans (if_pos c32)))))) rfl
      ·
        refine s_iload X (pc := 35) (x := p3) 4 dX10_offer_35 rfl ?_
        refine s_i2l X (pc := 37) dX10_offer_37 ?_
        refine s_lconst X (pc := 38) (v := 0) dX10_offer_38 (by decide) ?_
        refine s_lconst X (pc := 39) (v := 1) dX10_offer_39 (by decide) ?_
        refine s_callSiN X (pc := 40) (r := rX10_in p3.toInt64 (0 : Int64) (1 : Int64)) (n := 3) (st := []) (As := [.long p3.toInt64, .long (0 : Int64), .long (1 : Int64)]) 0 (c_X10_in l G p3.toInt64 (0 : Int64) (1 : Int64)) gX10_offer_X10_in rfl (by decide +kernel) ⟨Nat.le_of_ble_eq_true rfl, Nat.le_of_ble_eq_true rfl⟩ rfl rfl (Nat.le_of_ble_eq_true rfl) (Nat.zero_le _) (Nat.zero_le _) dX10_offer_40 ?_
        refine s_if_ne X (pc := 43) (tgt := 49) dX10_offer_43 (by decide) (fun c43 => ?_) (fun c43 => ?_)
        ·
          refine s_aload_n X (pc := 49) (x := (ad 0)) 0 dX10_offer_49 rfl ?_
          refine s_get X (pc := 50) (v := .ref (ad 9)) iX10_offer_X10 0 rfl rfl 8 (by decide) kX10_offer_25 rfl rfl dX10_offer_50 ?_
          refine s_iload_n X (pc := 53) (x := p0) 1 dX10_offer_53 rfl ?_
          refine s_iald X (pc := 54) (n := 5) (f := a8) 6 rfl (by first | with_reducible assumption | exact vin (b := 5) rfl (by grind) (by grind)) dX10_offer_54 ?_
          refine s_iload_n X (pc := 55) (x := p1) 2 dX10_offer_55 rfl ?_
          refine s_imul X (pc := 56) dX10_offer_56 ?_
          refine s_bipush X (pc := 57) (v := 100) dX10_offer_57 (by decide) ?_
          refine s_idiv X (pc := 59) dX10_offer_59 (by decide) ?_
          refine s_istore X (pc := 60) (i := 5) (lv2 := [(5, .int (((a8 p0.toNatClampNeg) * p1) / (100 : Int32))), (0, .ref (ad 0)), (1, .int p0), (2, .int p1), (3, .int p2), (4, .int p3)]) dX10_offer_60 (by decide) rfl ?_
          refine s_iload X (pc := 62) (x := p3) 5 dX10_offer_62 rfl ?_
          refine s_iconst X (pc := 64) (v := 1) dX10_offer_64 (by decide) ?_
          refine s_icmp_ne X (pc := 65) (tgt := 75) dX10_offer_65 (by decide) (fun c65 => ?_) (fun c65 => ?_)
          ·
            refine s_iload X (pc := 75) (x := ((a8 p0.toNatClampNeg) * p1) / (100 : Int32)) 0 dX10_offer_75 rfl ?_
            refine s_iload_n X (pc := 77) (x := p2) 4 dX10_offer_77 rfl ?_
            refine s_icmp_le X (pc := 78) (tgt := 88) dX10_offer_78 (by decide) (fun c78 => ?_) (fun c78 => ?_)
            ·
              refine s_iconst X (pc := 88) (v := 0) dX10_offer_88 (by decide) ?_
              exact s_iret X (pc := 89) (v := (0 : Int32)) dX10_offer_89 (Eq.symm (show rX10_offer a4 a8 p0 p1 p2 p3 = (0 : Int32) from (by unfold rX10_offer; exact ((if_neg c5).trans ((if_neg c20).trans ((if_neg c32).trans ((if_neg c43).trans ((if_neg c65).trans (if_pos c78))))))))) rfl
            ·
              refine s_iload X (pc := 81) (x := ((a8 p0.toNatClampNeg) * p1) / (100 : Int32)) 0 dX10_offer_81 rfl ?_
              refine s_iload_n X (pc := 83) (x := p2) 4 dX10_offer_83 rfl ?_
              refine s_isub X (pc := 84) dX10_offer_84 ?_
              refine s_goto X (pc := 85) (tgt := 89) dX10_offer_85 (by decide) ?_
              exact s_iret X (pc := 89) (v := (((a8 p0.toNatClampNeg) * p1) / (100 : Int32)) - p2) dX10_offer_89 (Eq.symm (show rX10_offer a4 a8 p0 p1 p2 p3 = (((a8 p0.toNatClampNeg) * p1) / (100 : Int32)) - p2 from (by unfold rX10_offer; exact ((if_neg c5).trans ((if_neg c20).trans ((if_neg c32).trans ((if_neg c43).trans ((if_neg c65).trans (if_neg c78))))))))) rfl
          ·
            refine s_iload X (pc := 68) (x := ((a8 p0.toNatClampNeg) * p1) / (100 : Int32)) 0 dX10_offer_68 rfl ?_
            refine s_iload_n X (pc := 70) (x := p2) 4 dX10_offer_70 rfl ?_
            refine s_iadd X (pc := 71) dX10_offer_71 ?_
            refine s_goto X (pc := 72) (tgt := 89) dX10_offer_72 (by decide) ?_
            exact s_iret X (pc := 89) (v := (((a8 p0.toNatClampNeg) * p1) / (100 : Int32)) + p2) dX10_offer_89 (Eq.symm (show rX10_offer a4 a8 p0 p1 p2 p3 = (((a8 p0.toNatClampNeg) * p1) / (100 : Int32)) + p2 from (by unfold rX10_offer; exact ((if_neg c5).trans ((if_neg c20).trans ((if_neg c32).trans ((if_neg c43).trans (if_pos c65)))))))) rfl
        ·
          refine s_ldc X (pc := 46) (v := -1000000002) kX10_offer_c101 dX10_offer_46 ?_
          exact s_iret X (pc := 48) (v := (-1000000002 : Int32)) dX10_offer_48 (Eq.symm (show rX10_offer a4 a8 p0 p1 p2 p3 = (-1000000002 : Int32) from (by unfold rX10_offer; exact ((if_neg c5).trans ((if_neg c20).trans ((if_neg c32).trans (if_pos c43))))))) rfl
  ·
    refine s_ldc X (pc := 8) (v := -1000000001) kX10_offer_c190 dX10_offer_8 ?_
    exact s_iret X (pc := 10) (v := (-1000000001 : Int32)) dX10_offer_10 (Eq.symm (show rX10_offer a4 a8 p0 p1 p2 p3 = (-1000000001 : Int32) from (by unfold rX10_offer; exact (if_pos c5)))) rfl

theorem kX10_calm_l198 : Jvm.Cond.constantLong RX10 198 (60) ∈ wsX10_calm := List.mem_of_getElem? (i := 1) rfl
theorem kX10_calm_c101 : Jvm.Cond.constant RX10 101 (-1000000002) ∈ wsX10_calm := List.mem_of_getElem? (i := 3) rfl
theorem kX10_calm_l257 : Jvm.Cond.constantLong RX10 257 (100) ∈ wsX10_calm := List.mem_of_getElem? (i := 2) rfl
theorem kX10_calm_l261 : Jvm.Cond.constantLong RX10 261 (1000000000) ∈ wsX10_calm := List.mem_of_getElem? (i := 4) rfl
def aX10_calm_34 (p1 : Int32) : Nat → Int64
  | 0 => (1000000000 : Int64)
  | k34 + 1 => ((aX10_calm_34 p1 k34) * (((100 : Int32) - p1).toInt64)) / (100 : Int64)
def rX10_calm (p0 p1 : Int32) : Int32 := if (rX10_in p0.toInt64 (0 : Int64) (60 : Int64)) = 0 then (-1000000002 : Int32) else (if (rX10_in p1.toInt64 (0 : Int64) (100 : Int64)) = 0 then (-1000000002 : Int32) else ((aX10_calm_34 p1 p0.toNatClampNeg).toInt32))
set_option maxRecDepth 100000 in
set_option maxHeartbeats 4000000 in
theorem c_X10_calm (l : Launch) (G : GT) (ad : Nat → Nat) (a0 : Int32) (a1 : Nat → Int32) (a2 : Int32) (a3 : Nat → Int32) (a4 : Int32) (a5 a6 a7 a8 a9 : Nat → Int32) (a10 : Int32) (a11 : Nat → Int32) (a12 a13 a14 a15 a16 a17 : Int32) (a18 : Nat → Int32) (a19 : Int32) (a20 : Nat → Int32) (a21 : Int32) (a22 a23 a24 a25 : Nat → Int32) (a26 : Int32) (a27 a28 a29 a30 : Nat → Int32) (a31 : Int32) (a32 a33 : Nat → Int32) (a34 : Int32) (a35 a36 a37 a38 : Nat → Int32) (p0 p1 : Int32) : Ci l G yX10_calm wsX10_calm (rmL 1) [.ref (ad 0), .int p0, .int p1] (wX10 G ad a0 a1 a2 a3 a4 a5 a6 a7 a8 a9 a10 a11 a12 a13 a14 a15 a16 a17 a18 a19 a20 a21 a22 a23 a24 a25 a26 a27 a28 a29 a30 a31 a32 a33 a34 a35 a36 a37 a38) (rX10_calm p0 p1) (wX10 G ad a0 a1 a2 a3 a4 a5 a6 a7 a8 a9 a10 a11 a12 a13 a14 a15 a16 a17 a18 a19 a20 a21 a22 a23 a24 a25 a26 a27 a28 a29 a30 a31 a32 a33 a34 a35 a36 a37 a38) := by
  refine ci_start .int (by decide) rfl rfl (Nat.le_of_ble_eq_true rfl) ?_
  intro p e s m args below meth c A X
  refine s_perm (lv2 := [(0, .ref (ad 0)), (1, .int p0), (2, .int p1)]) [0, 1, 2] rfl ?_
  refine s_iload_n X (pc := 0) (x := p0) 1 dX10_calm_0 rfl ?_
  refine s_i2l X (pc := 1) dX10_calm_1 ?_
  refine s_lconst X (pc := 2) (v := 0) dX10_calm_2 (by decide) ?_
  refine s_ldc2 X (pc := 3) (v := 60) kX10_calm_l198 dX10_calm_3 ?_
  refine s_callSiN X (pc := 6) (r := rX10_in p0.toInt64 (0 : Int64) (60 : Int64)) (n := 3) (st := []) (As := [.long p0.toInt64, .long (0 : Int64), .long (60 : Int64)]) 0 (c_X10_in l G p0.toInt64 (0 : Int64) (60 : Int64)) gX10_calm_X10_in rfl (by decide +kernel) ⟨Nat.le_of_ble_eq_true rfl, Nat.le_of_ble_eq_true rfl⟩ rfl rfl (Nat.le_of_ble_eq_true rfl) (Nat.zero_le _) (Nat.zero_le _) dX10_calm_6 ?_
  refine s_if_eq X (pc := 9) (tgt := 24) dX10_calm_9 (by decide) (fun c9 => ?_) (fun c9 => ?_)
  ·
    refine s_ldc X (pc := 24) (v := -1000000002) kX10_calm_c101 dX10_calm_24 ?_
    exact s_iret X (pc := 26) (v := (-1000000002 : Int32)) dX10_calm_26 (Eq.symm (show rX10_calm p0 p1 = (-1000000002 : Int32) from (by unfold rX10_calm; exact (if_pos c9)))) rfl
  ·
    have q9 := inI 0 60 rfl rfl c9
    have e0 := clampInt (x := p0) q9.1
    have hNp := clampLe (x := p0) (n := 60) (b := 60) rfl q9.1 q9.2
    refine s_iload_n X (pc := 12) (x := p1) 2 dX10_calm_12 rfl ?_
    refine s_i2l X (pc := 13) dX10_calm_13 ?_
    refine s_lconst X (pc := 14) (v := 0) dX10_calm_14 (by decide) ?_
    refine s_ldc2 X (pc := 15) (v := 100) kX10_calm_l257 dX10_calm_15 ?_
    refine s_callSiN X (pc := 18) (r := rX10_in p1.toInt64 (0 : Int64) (100 : Int64)) (n := 3) (st := []) (As := [.long p1.toInt64, .long (0 : Int64), .long (100 : Int64)]) 0 (c_X10_in l G p1.toInt64 (0 : Int64) (100 : Int64)) gX10_calm_X10_in rfl (by decide +kernel) ⟨Nat.le_of_ble_eq_true rfl, Nat.le_of_ble_eq_true rfl⟩ rfl rfl (Nat.le_of_ble_eq_true rfl) (Nat.zero_le _) (Nat.zero_le _) dX10_calm_18 ?_
    refine s_if_ne X (pc := 21) (tgt := 27) dX10_calm_21 (by decide) (fun c21 => ?_) (fun c21 => ?_)
    ·
      refine s_ldc2 X (pc := 27) (v := 1000000000) kX10_calm_l261 dX10_calm_27 ?_
      refine s_lstore_n X (pc := 30) (i := 3) (lv2 := [(3, .long (1000000000 : Int64)), (0, .ref (ad 0)), (1, .int p0), (2, .int p1)]) dX10_calm_30 rfl (by decide) rfl ?_
      refine s_iconst X (pc := 31) (v := 0) dX10_calm_31 (by decide) ?_
      refine s_istore X (pc := 32) (i := 5) (lv2 := [(5, .int (0 : Int32)), (3, .long (1000000000 : Int64)), (0, .ref (ad 0)), (1, .int p0), (2, .int p1)]) dX10_calm_32 (by decide) rfl ?_
      refine s_perm (lv2 := [(0, .ref (ad 0)), (1, .int p0), (2, .int p1), (3, .long (1000000000 : Int64)), (5, .int (0 : Int32))]) [2, 3, 4, 1, 0] rfl ?_
      have L34 : ∀ (n34 k34 : Nat), k34 + n34 = p0.toNatClampNeg → Sm p l e (rmL 1) s m args below meth c G A 6 0 0 (Qci below G A args s (rX10_calm p0 p1) (wX10 G ad a0 a1 a2 a3 a4 a5 a6 a7 a8 a9 a10 a11 a12 a13 a14 a15 a16 a17 a18 a19 a20 a21 a22 a23 a24 a25 a26 a27 a28 a29 a30 a31 a32 a33 a34 a35 a36 a37 a38)) 34 [(0, .ref (ad 0)), (1, .int p0), (2, .int p1), (3, .long (aX10_calm_34 p1 k34)), (5, .int (nI k34))] [] (wX10 G ad a0 a1 a2 a3 a4 a5 a6 a7 a8 a9 a10 a11 a12 a13 a14 a15 a16 a17 a18 a19 a20 a21 a22 a23 a24 a25 a26 a27 a28 a29 a30 a31 a32 a33 a34 a35 a36 a37 a38) := by
        intro n34
        induction n34 with
        | zero =>
          intro k34 hk34
          have hK34 : k34 = p0.toNatClampNeg := by omega
          rw [hK34]
          have tk34 : (nI p0.toNatClampNeg).toInt = ((p0.toNatClampNeg : Nat) : Int) := nI_toInt (by omega)
          have eN34 : (p0).toInt = ((p0.toNatClampNeg : Nat) : Int) := e0
          refine s_iload X (pc := 34) (x := nI p0.toNatClampNeg) 4 dX10_calm_34 rfl ?_
          refine s_iload_n X (pc := 36) (x := p0) 1 dX10_calm_36 rfl ?_
          refine s_icmp_ge X (pc := 37) (tgt := 58) dX10_calm_37 (by decide) (fun c37 => ?_) (fun c37 => ?_)
          ·
            refine s_lload_n X (pc := 58) (x := (aX10_calm_34 p1 p0.toNatClampNeg)) 3 dX10_calm_58 rfl ?_
            refine s_l2i X (pc := 59) dX10_calm_59 ?_
            exact s_iret X (pc := 60) (v := (aX10_calm_34 p1 p0.toNatClampNeg).toInt32) dX10_calm_60 (Eq.symm (show rX10_calm p0 p1 = (aX10_calm_34 p1 p0.toNatClampNeg).toInt32 from (by unfold rX10_calm; exact ((if_neg c9).trans (if_neg c21))))) rfl
          ·
            exact absurd ((t_le eN34 tk34).mpr (by omega)) c37
        | succ n34 ih34 =>
          intro k34 hk34
          have hlt34 : k34 < p0.toNatClampNeg := by omega
          have tk34 : (nI k34).toInt = ((k34 : Nat) : Int) := nI_toInt (by omega)
          have eN34 : (p0).toInt = ((p0.toNatClampNeg : Nat) : Int) := e0
          refine s_iload X (pc := 34) (x := nI k34) 4 dX10_calm_34 rfl ?_
          refine s_iload_n X (pc := 36) (x := p0) 1 dX10_calm_36 rfl ?_
          refine s_icmp_ge X (pc := 37) (tgt := 58) dX10_calm_37 (by decide) (fun c37 => ?_) (fun c37 => ?_)
          ·
            exact absurd ((t_le eN34 tk34).mp c37) (by omega)
          ·
            refine s_lload_n X (pc := 40) (x := (aX10_calm_34 p1 k34)) 3 dX10_calm_40 rfl ?_
            refine s_bipush X (pc := 41) (v := 100) dX10_calm_41 (by decide) ?_
            refine s_iload_n X (pc := 43) (x := p1) 2 dX10_calm_43 rfl ?_
            refine s_isub X (pc := 44) dX10_calm_44 ?_
            refine s_i2l X (pc := 45) dX10_calm_45 ?_
            refine s_lmul X (pc := 46) dX10_calm_46 ?_
            refine s_ldc2 X (pc := 47) (v := 100) kX10_calm_l257 dX10_calm_47 ?_
            refine s_ldiv X (pc := 50) dX10_calm_50 (by decide) ?_
            refine s_lstore_n X (pc := 51) (i := 3) (lv2 := [(3, .long (((aX10_calm_34 p1 k34) * (((100 : Int32) - p1).toInt64)) / (100 : Int64))), (0, .ref (ad 0)), (1, .int p0), (2, .int p1), (5, .int (nI k34))]) dX10_calm_51 rfl (by decide) rfl ?_
            refine s_iinc X (pc := 52) (v := nI (k34 + 1)) (lv2 := [(5, .int (nI (k34 + 1))), (3, .long (((aX10_calm_34 p1 k34) * (((100 : Int32) - p1).toInt64)) / (100 : Int64))), (0, .ref (ad 0)), (1, .int p0), (2, .int p1)]) 4 dX10_calm_52 rfl (nI_1 _) (by decide) rfl ?_
            refine s_goto X (pc := 55) (tgt := 34) dX10_calm_55 (by decide) ?_
            refine s_perm (lv2 := [(0, .ref (ad 0)), (1, .int p0), (2, .int p1), (3, .long (((aX10_calm_34 p1 k34) * (((100 : Int32) - p1).toInt64)) / (100 : Int64))), (5, .int (nI (k34 + 1)))]) [2, 3, 4, 1, 0] rfl ?_
            have hb34 : (aX10_calm_34 p1 (k34 + 1)) = ((aX10_calm_34 p1 k34) * (((100 : Int32) - p1).toInt64)) / (100 : Int64) := rfl
            refine s_cast (lv2 := [(0, .ref (ad 0)), (1, .int p0), (2, .int p1), (3, .long (aX10_calm_34 p1 (k34 + 1))), (5, .int (nI (k34 + 1)))]) (w2 := wX10 G ad a0 a1 a2 a3 a4 a5 a6 a7 a8 a9 a10 a11 a12 a13 a14 a15 a16 a17 a18 a19 a20 a21 a22 a23 a24 a25 a26 a27 a28 a29 a30 a31 a32 a33 a34 a35 a36 a37 a38) (by first | (rw [hb34]; done) | rfl) (by first | (rw [hb34]; done) | rfl) ?_
            exact ih34 (k34 + 1) (by omega)
      exact L34 p0.toNatClampNeg 0 (Nat.zero_add _)
    ·
      refine s_ldc X (pc := 24) (v := -1000000002) kX10_calm_c101 dX10_calm_24 ?_
      exact s_iret X (pc := 26) (v := (-1000000002 : Int32)) dX10_calm_26 (Eq.symm (show rX10_calm p0 p1 = (-1000000002 : Int32) from (by unfold rX10_calm; exact ((if_neg c9).trans (if_pos c21))))) rfl
