theorem iX10_chance_X10 : ∀ z ∈ wsX100, z ∈ wsX10_chance := fun z h => List.mem_cons_of_mem _ (List.mem_append_right _ h)
theorem kX10_chance_87 : Cond.fieldLink RX10 87 "BathingCourtModel" (TX10 2).2.1 (TX10 2).2.2.1 ∈ wsX10_chance := List.mem_of_getElem? (i := 1) rfl
theorem kX10_chance_94 : Cond.fieldLink RX10 94 "BathingCourtModel" (TX10 4).2.1 (TX10 4).2.2.1 ∈ wsX10_chance := List.mem_of_getElem? (i := 2) rfl
def sX10_chance_9 (a2 : Int32) (a3 : Nat → Int32) (a4 : Int32) (a9 : Nat → Int32) (a10 : Int32) : Nat → Int32 := if (rX10_canDraw a3 a9 (sdx a10 / 65536 - sdx a10 / 65536 / a2 * a2) (sdx (sdx a10) / 65536 - sdx (sdx a10) / 65536 / (10 : Int32) * (10 : Int32))) = 0 then (if a4 ≤ 0 then a9 else (if (rX10_canBring a9 (sdx (sdx (sdx a10)) / 65536 - sdx (sdx (sdx a10)) / 65536 / a4 * a4) (sdx a10 / 65536 - sdx a10 / 65536 / a2 * a2)) = 0 then a9 else (sX10_bringNow_9 a9 (sdx (sdx (sdx a10)) / 65536 - sdx (sdx (sdx a10)) / 65536 / a4 * a4) (sdx a10 / 65536 - sdx a10 / 65536 / a2 * a2)))) else (if a4 ≤ 0 then (sX10_drawNow_9 a9 (sdx a10 / 65536 - sdx a10 / 65536 / a2 * a2) (sdx (sdx a10) / 65536 - sdx (sdx a10) / 65536 / (10 : Int32) * (10 : Int32))) else (if (rX10_canBring (sX10_drawNow_9 a9 (sdx a10 / 65536 - sdx a10 / 65536 / a2 * a2) (sdx (sdx a10) / 65536 - sdx (sdx a10) / 65536 / (10 : Int32) * (10 : Int32))) (sdx (sdx (sdx a10)) / 65536 - sdx (sdx (sdx a10)) / 65536 / a4 * a4) (sdx a10 / 65536 - sdx a10 / 65536 / a2 * a2)) = 0 then (sX10_drawNow_9 a9 (sdx a10 / 65536 - sdx a10 / 65536 / a2 * a2) (sdx (sdx a10) / 65536 - sdx (sdx a10) / 65536 / (10 : Int32) * (10 : Int32))) else (sX10_bringNow_9 (sX10_drawNow_9 a9 (sdx a10 / 65536 - sdx a10 / 65536 / a2 * a2) (sdx (sdx a10) / 65536 - sdx (sdx a10) / 65536 / (10 : Int32) * (10 : Int32))) (sdx (sdx (sdx a10)) / 65536 - sdx (sdx (sdx a10)) / 65536 / a4 * a4) (sdx a10 / 65536 - sdx a10 / 65536 / a2 * a2))))
def sX10_chance_10 (a2 : Int32) (a3 : Nat → Int32) (a4 : Int32) (a9 : Nat → Int32) (a10 : Int32) : Int32 := if (rX10_canDraw a3 a9 (sdx a10 / 65536 - sdx a10 / 65536 / a2 * a2) (sdx (sdx a10) / 65536 - sdx (sdx a10) / 65536 / (10 : Int32) * (10 : Int32))) = 0 then (if a4 ≤ 0 then (sdx (sdx a10)) else (if (rX10_canBring a9 (sdx (sdx (sdx a10)) / 65536 - sdx (sdx (sdx a10)) / 65536 / a4 * a4) (sdx a10 / 65536 - sdx a10 / 65536 / a2 * a2)) = 0 then (sdx (sdx (sdx a10))) else (sdx (sdx (sdx a10))))) else (if a4 ≤ 0 then (sdx (sdx a10)) else (if (rX10_canBring (sX10_drawNow_9 a9 (sdx a10 / 65536 - sdx a10 / 65536 / a2 * a2) (sdx (sdx a10) / 65536 - sdx (sdx a10) / 65536 / (10 : Int32) * (10 : Int32))) (sdx (sdx (sdx a10)) / 65536 - sdx (sdx (sdx a10)) / 65536 / a4 * a4) (sdx a10 / 65536 - sdx a10 / 65536 / a2 * a2)) = 0 then (sdx (sdx (sdx a10))) else (sdx (sdx (sdx a10)))))
set_option maxRecDepth 100000 in
set_option maxHeartbeats 4000000 in
theorem c_X10_chance (l : Launch) (G : GT) (ad : Nat → Nat) (a0 : Int32) (a1 : Nat → Int32) (a2 : Int32) (a3 : Nat → Int32) (a4 : Int32) (a5 a6 a7 a8 a9 : Nat → Int32) (a10 : Int32) (a11 : Nat → Int32) (a12 a13 a14 a15 a16 a17 : Int32) (a18 : Nat → Int32) (a19 : Int32) (a20 : Nat → Int32) (a21 : Int32) (a22 a23 a24 a25 : Nat → Int32) (a26 : Int32) (a27 a28 a29 a30 : Nat → Int32) (a31 : Int32) (a32 a33 : Nat → Int32) (a34 : Int32) (a35 a36 a37 a38 : Nat → Int32) (h1 : 0 < a2) (h4 : a2 ≤ 4) (ca : 0 ≤ a4) (cb : a4 ≤ 5) (s0 : 0 ≤ a10) : Cv l G yX10_chance wsX10_chance (rmL 2) [.ref (ad 0)] (wX10 G ad a0 a1 a2 a3 a4 a5 a6 a7 a8 a9 a10 a11 a12 a13 a14 a15 a16 a17 a18 a19 a20 a21 a22 a23 a24 a25 a26 a27 a28 a29 a30 a31 a32 a33 a34 a35 a36 a37 a38) (wX10 G ad a0 a1 a2 a3 a4 a5 a6 a7 a8 (sX10_chance_9 a2 a3 a4 a9 a10) (sX10_chance_10 a2 a3 a4 a9 a10) a11 a12 a13 a14 a15 a16 a17 a18 a19 a20 a21 a22 a23 a24 a25 a26 a27 a28 a29 a30 a31 a32 a33 a34 a35 a36 a37 a38) := by
  refine cv_start (by decide) rfl rfl (Nat.le_of_ble_eq_true rfl) ?_
  intro p e s m args below meth c A X
  refine s_perm (lv2 := [(0, .ref (ad 0))]) [0] rfl ?_
  refine s_aload_n X (pc := 0) (x := (ad 0)) 0 dX10_chance_0 rfl ?_
  refine s_aload_n X (pc := 1) (x := (ad 0)) 0 dX10_chance_1 rfl ?_
  refine s_get X (pc := 2) (v := .int a2) iX10_chance_X10 0 rfl rfl 2 (by decide) kX10_chance_87 rfl rfl dX10_chance_2 ?_
  refine s_callVi0 X (pc := 5) (r := sdx a10 / 65536 - sdx a10 / 65536 / a2 * a2) (w := wX10 G ad a0 a1 a2 a3 a4 a5 a6 a7 a8 a9 a10 a11 a12 a13 a14 a15 a16 a17 a18 a19 a20 a21 a22 a23 a24 a25 a26 a27 a28 a29 a30 a31 a32 a33 a34 a35 a36 a37 a38) (n := 1) (st := []) (As := [.int a2]) (w2 := wX10 G ad a0 a1 a2 a3 a4 a5 a6 a7 a8 a9 (sdx a10) a11 a12 a13 a14 a15 a16 a17 a18 a19 a20 a21 a22 a23 a24 a25 a26 a27 a28 a29 a30 a31 a32 a33 a34 a35 a36 a37 a38) 0 (c_X10_draw l G ad a0 a1 a2 a3 a4 a5 a6 a7 a8 a9 a10 a11 a12 a13 a14 a15 a16 a17 a18 a19 a20 a21 a22 a23 a24 a25 a26 a27 a28 a29 a30 a31 a32 a33 a34 a35 a36 a37 a38 a2 (by grind)) gX10_chance_X10_draw rfl (by decide +kernel) ⟨Nat.le_of_ble_eq_true rfl, Nat.le_of_ble_eq_true rfl⟩ 0 rfl rfl rfl rfl (Nat.le_of_ble_eq_true rfl) (Nat.zero_le _) (Nat.zero_le _) dX10_chance_5 ?_
  have qh := rem_in (x := sdx a10) (sdx_nn s0) h1
  have qh4 := Int32.lt_of_lt_of_le qh.2 h4
  refine s_istore_n X (pc := 8) (i := 1) (lv2 := [(1, .int (sdx a10 / 65536 - sdx a10 / 65536 / a2 * a2)), (0, .ref (ad 0))]) dX10_chance_8 rfl (by decide) rfl ?_
  refine s_aload_n X (pc := 9) (x := (ad 0)) 1 dX10_chance_9 rfl ?_
  refine s_bipush X (pc := 10) (v := 10) dX10_chance_10 (by decide) ?_
  refine s_callVi0 X (pc := 12) (r := sdx (sdx a10) / 65536 - sdx (sdx a10) / 65536 / (10 : Int32) * (10 : Int32)) (w := wX10 G ad a0 a1 a2 a3 a4 a5 a6 a7 a8 a9 (sdx a10) a11 a12 a13 a14 a15 a16 a17 a18 a19 a20 a21 a22 a23 a24 a25 a26 a27 a28 a29 a30 a31 a32 a33 a34 a35 a36 a37 a38) (n := 1) (st := []) (As := [.int (10 : Int32)]) (w2 := wX10 G ad a0 a1 a2 a3 a4 a5 a6 a7 a8 a9 (sdx (sdx a10)) a11 a12 a13 a14 a15 a16 a17 a18 a19 a20 a21 a22 a23 a24 a25 a26 a27 a28 a29 a30 a31 a32 a33 a34 a35 a36 a37 a38) 0 (c_X10_draw l G ad a0 a1 a2 a3 a4 a5 a6 a7 a8 a9 (sdx a10) a11 a12 a13 a14 a15 a16 a17 a18 a19 a20 a21 a22 a23 a24 a25 a26 a27 a28 a29 a30 a31 a32 a33 a34 a35 a36 a37 a38 (10 : Int32) (by decide)) gX10_chance_X10_draw rfl (by decide +kernel) ⟨Nat.le_of_ble_eq_true rfl, Nat.le_of_ble_eq_true rfl⟩ 0 rfl rfl rfl rfl (Nat.le_of_ble_eq_true rfl) (Nat.zero_le _) (Nat.zero_le _) dX10_chance_12 ?_
  refine s_istore_n X (pc := 15) (i := 2) (lv2 := [(2, .int (sdx (sdx a10) / 65536 - sdx (sdx a10) / 65536 / (10 : Int32) * (10 : Int32))), (1, .int (sdx a10 / 65536 - sdx a10 / 65536 / a2 * a2)), (0, .ref (ad 0))]) dX10_chance_15 rfl (by decide) rfl ?_
  refine s_aload_n X (pc := 16) (x := (ad 0)) 2 dX10_chance_16 rfl ?_
  refine s_iload_n X (pc := 17) (x := sdx a10 / 65536 - sdx a10 / 65536 / a2 * a2) 1 dX10_chance_17 rfl ?_
  refine s_iload_n X (pc := 18) (x := sdx (sdx a10) / 65536 - sdx (sdx a10) / 65536 / (10 : Int32) * (10 : Int32)) 0 dX10_chance_18 rfl ?_
  refine s_callVi0 X (pc := 19) (r := rX10_canDraw a3 a9 (sdx a10 / 65536 - sdx a10 / 65536 / a2 * a2) (sdx (sdx a10) / 65536 - sdx (sdx a10) / 65536 / (10 : Int32) * (10 : Int32))) (w := wX10 G ad a0 a1 a2 a3 a4 a5 a6 a7 a8 a9 (sdx (sdx a10)) a11 a12 a13 a14 a15 a16 a17 a18 a19 a20 a21 a22 a23 a24 a25 a26 a27 a28 a29 a30 a31 a32 a33 a34 a35 a36 a37 a38) (n := 2) (st := []) (As := [.int (sdx a10 / 65536 - sdx a10 / 65536 / a2 * a2), .int (sdx (sdx a10) / 65536 - sdx (sdx a10) / 65536 / (10 : Int32) * (10 : Int32))]) (w2 := wX10 G ad a0 a1 a2 a3 a4 a5 a6 a7 a8 a9 (sdx (sdx a10)) a11 a12 a13 a14 a15 a16 a17 a18 a19 a20 a21 a22 a23 a24 a25 a26 a27 a28 a29 a30 a31 a32 a33 a34 a35 a36 a37 a38) 1 (c_X10_canDraw l G ad a0 a1 a2 a3 a4 a5 a6 a7 a8 a9 (sdx (sdx a10)) a11 a12 a13 a14 a15 a16 a17 a18 a19 a20 a21 a22 a23 a24 a25 a26 a27 a28 a29 a30 a31 a32 a33 a34 a35 a36 a37 a38 (sdx a10 / 65536 - sdx a10 / 65536 / a2 * a2) (sdx (sdx a10) / 65536 - sdx (sdx a10) / 65536 / (10 : Int32) * (10 : Int32)) qh.1 qh4) gX10_chance_X10_canDraw rfl (by decide +kernel) ⟨Nat.le_of_ble_eq_true rfl, Nat.le_of_ble_eq_true rfl⟩ 0 rfl rfl rfl rfl (Nat.le_of_ble_eq_true rfl) (Nat.zero_le _) (Nat.zero_le _) dX10_chance_19 ?_
  refine s_if_eq X (pc := 22) (tgt := 31) dX10_chance_22 (by decide) (fun c22 => ?_) (fun c22 => ?_)
  ·
    refine s_aload_n X (pc := 31) (x := (ad 0)) 2 dX10_chance_31 rfl ?_
    refine s_get X (pc := 32) (v := .int a4) iX10_chance_X10 0 rfl rfl 4 (by decide) kX10_chance_94 rfl rfl dX10_chance_32 ?_
    refine s_if_le X (pc := 35) (tgt := 62) dX10_chance_35 (by decide) (fun c35 => ?_) (fun c35 => ?_)
    ·
      exact s_vret X (pc := 62) dX10_chance_62 (by rw [show sX10_chance_9 a2 a3 a4 a9 a10 = a9 from (by unfold sX10_chance_9; exact ((if_pos c22).trans (if_pos c35))), show sX10_chance_10 a2 a3 a4 a9 a10 = sdx (sdx a10) from (by unfold sX10_chance_10; exact ((if_pos c22).trans (if_pos c35)))])
    ·
      refine s_aload_n X (pc := 38) (x := (ad 0)) 2 dX10_chance_38 rfl ?_
      refine s_aload_n X (pc := 39) (x := (ad 0)) 2 dX10_chance_39 rfl ?_
      refine s_get X (pc := 40) (v := .int a4) iX10_chance_X10 0 rfl rfl 4 (by decide) kX10_chance_94 rfl rfl dX10_chance_40 ?_
      refine s_callVi0 X (pc := 43) (r := sdx (sdx (sdx a10)) / 65536 - sdx (sdx (sdx a10)) / 65536 / a4 * a4) (w := wX10 G ad a0 a1 a2 a3 a4 a5 a6 a7 a8 a9 (sdx (sdx a10)) a11 a12 a13 a14 a15 a16 a17 a18 a19 a20 a21 a22 a23 a24 a25 a26 a27 a28 a29 a30 a31 a32 a33 a34 a35 a36 a37 a38) (n := 1) (st := []) (As := [.int a4]) (w2 := wX10 G ad a0 a1 a2 a3 a4 a5 a6 a7 a8 a9 (sdx (sdx (sdx a10))) a11 a12 a13 a14 a15 a16 a17 a18 a19 a20 a21 a22 a23 a24 a25 a26 a27 a28 a29 a30 a31 a32 a33 a34 a35 a36 a37 a38) 0 (c_X10_draw l G ad a0 a1 a2 a3 a4 a5 a6 a7 a8 a9 (sdx (sdx a10)) a11 a12 a13 a14 a15 a16 a17 a18 a19 a20 a21 a22 a23 a24 a25 a26 a27 a28 a29 a30 a31 a32 a33 a34 a35 a36 a37 a38 a4 (by grind)) gX10_chance_X10_draw rfl (by decide +kernel) ⟨Nat.le_of_ble_eq_true rfl, Nat.le_of_ble_eq_true rfl⟩ 0 rfl rfl rfl rfl (Nat.le_of_ble_eq_true rfl) (Nat.zero_le _) (Nat.zero_le _) dX10_chance_43 ?_
      have qc := rem_in (x := sdx (sdx (sdx a10))) (n := a4) (sdx_nn (sdx_nn (sdx_nn s0))) (Int32.not_le.mp c35)
      have qc5 := Int32.lt_of_lt_of_le qc.2 cb
      refine s_istore_n X (pc := 46) (i := 3) (lv2 := [(3, .int (sdx (sdx (sdx a10)) / 65536 - sdx (sdx (sdx a10)) / 65536 / a4 * a4)), (2, .int (sdx (sdx a10) / 65536 - sdx (sdx a10) / 65536 / (10 : Int32) * (10 : Int32))), (1, .int (sdx a10 / 65536 - sdx a10 / 65536 / a2 * a2)), (0, .ref (ad 0))]) dX10_chance_46 rfl (by decide) rfl ?_
      refine s_aload_n X (pc := 47) (x := (ad 0)) 3 dX10_chance_47 rfl ?_
      refine s_iload_n X (pc := 48) (x := sdx (sdx (sdx a10)) / 65536 - sdx (sdx (sdx a10)) / 65536 / a4 * a4) 0 dX10_chance_48 rfl ?_
      refine s_iload_n X (pc := 49) (x := sdx a10 / 65536 - sdx a10 / 65536 / a2 * a2) 2 dX10_chance_49 rfl ?_
      refine s_callVi0 X (pc := 50) (r := rX10_canBring a9 (sdx (sdx (sdx a10)) / 65536 - sdx (sdx (sdx a10)) / 65536 / a4 * a4) (sdx a10 / 65536 - sdx a10 / 65536 / a2 * a2)) (w := wX10 G ad a0 a1 a2 a3 a4 a5 a6 a7 a8 a9 (sdx (sdx (sdx a10))) a11 a12 a13 a14 a15 a16 a17 a18 a19 a20 a21 a22 a23 a24 a25 a26 a27 a28 a29 a30 a31 a32 a33 a34 a35 a36 a37 a38) (n := 2) (st := []) (As := [.int (sdx (sdx (sdx a10)) / 65536 - sdx (sdx (sdx a10)) / 65536 / a4 * a4), .int (sdx a10 / 65536 - sdx a10 / 65536 / a2 * a2)]) (w2 := wX10 G ad a0 a1 a2 a3 a4 a5 a6 a7 a8 a9 (sdx (sdx (sdx a10))) a11 a12 a13 a14 a15 a16 a17 a18 a19 a20 a21 a22 a23 a24 a25 a26 a27 a28 a29 a30 a31 a32 a33 a34 a35 a36 a37 a38) 0 (c_X10_canBring l G ad a0 a1 a2 a3 a4 a5 a6 a7 a8 a9 (sdx (sdx (sdx a10))) a11 a12 a13 a14 a15 a16 a17 a18 a19 a20 a21 a22 a23 a24 a25 a26 a27 a28 a29 a30 a31 a32 a33 a34 a35 a36 a37 a38 (sdx (sdx (sdx a10)) / 65536 - sdx (sdx (sdx a10)) / 65536 / a4 * a4) (sdx a10 / 65536 - sdx a10 / 65536 / a2 * a2) qc.1 qc5 qh.1 qh4) gX10_chance_X10_canBring rfl (by decide +kernel) ⟨Nat.le_of_ble_eq_true rfl, Nat.le_of_ble_eq_true rfl⟩ 0 rfl rfl rfl rfl (Nat.le_of_ble_eq_true rfl) (Nat.zero_le _) (Nat.zero_le _) dX10_chance_50 ?_
      refine s_if_eq X (pc := 53) (tgt := 62) dX10_chance_53 (by decide) (fun c53 => ?_) (fun c53 => ?_)
      ·
        exact s_vret X (pc := 62) dX10_chance_62 (by rw [show sX10_chance_9 a2 a3 a4 a9 a10 = a9 from (by unfold sX10_chance_9; exact ((if_pos c22).trans ((if_neg c35).trans (if_pos c53)))), show sX10_chance_10 a2 a3 a4 a9 a10 = sdx (sdx (sdx a10)) from (by unfold sX10_chance_10; exact ((if_pos c22).trans ((if_neg c35).trans (if_pos c53))))])
      ·
        refine s_aload_n X (pc := 56) (x := (ad 0)) 3 dX10_chance_56 rfl ?_
        refine s_iload_n X (pc := 57) (x := sdx (sdx (sdx a10)) / 65536 - sdx (sdx (sdx a10)) / 65536 / a4 * a4) 0 dX10_chance_57 rfl ?_
        refine s_iload_n X (pc := 58) (x := sdx a10 / 65536 - sdx a10 / 65536 / a2 * a2) 2 dX10_chance_58 rfl ?_
        refine s_callVv0 X (pc := 59) (w := wX10 G ad a0 a1 a2 a3 a4 a5 a6 a7 a8 a9 (sdx (sdx (sdx a10))) a11 a12 a13 a14 a15 a16 a17 a18 a19 a20 a21 a22 a23 a24 a25 a26 a27 a28 a29 a30 a31 a32 a33 a34 a35 a36 a37 a38) (n := 2) (st := []) (As := [.int (sdx (sdx (sdx a10)) / 65536 - sdx (sdx (sdx a10)) / 65536 / a4 * a4), .int (sdx a10 / 65536 - sdx a10 / 65536 / a2 * a2)]) (w2 := wX10 G ad a0 a1 a2 a3 a4 a5 a6 a7 a8 (sX10_bringNow_9 a9 (sdx (sdx (sdx a10)) / 65536 - sdx (sdx (sdx a10)) / 65536 / a4 * a4) (sdx a10 / 65536 - sdx a10 / 65536 / a2 * a2)) (sdx (sdx (sdx a10))) a11 a12 a13 a14 a15 a16 a17 a18 a19 a20 a21 a22 a23 a24 a25 a26 a27 a28 a29 a30 a31 a32 a33 a34 a35 a36 a37 a38) 0 (c_X10_bringNow l G ad a0 a1 a2 a3 a4 a5 a6 a7 a8 a9 (sdx (sdx (sdx a10))) a11 a12 a13 a14 a15 a16 a17 a18 a19 a20 a21 a22 a23 a24 a25 a26 a27 a28 a29 a30 a31 a32 a33 a34 a35 a36 a37 a38 (sdx (sdx (sdx a10)) / 65536 - sdx (sdx (sdx a10)) / 65536 / a4 * a4) (sdx a10 / 65536 - sdx a10 / 65536 / a2 * a2) qc.1 qc5 qh.1 qh4) gX10_chance_X10_bringNow rfl (by decide +kernel) ⟨Nat.le_of_ble_eq_true rfl, Nat.le_of_ble_eq_true rfl⟩ 0 rfl rfl rfl rfl (Nat.le_of_ble_eq_true rfl) (Nat.zero_le _) (Nat.zero_le _) dX10_chance_59 ?_
        exact s_vret X (pc := 62) dX10_chance_62 (by rw [show sX10_chance_9 a2 a3 a4 a9 a10 = sX10_bringNow_9 a9 (sdx (sdx (sdx a10)) / 65536 - sdx (sdx (sdx a10)) / 65536 / a4 * a4) (sdx a10 / 65536 - sdx a10 / 65536 / a2 * a2) from (by unfold sX10_chance_9; exact ((if_pos c22).trans ((if_neg c35).trans (if_neg c53)))), show sX10_chance_10 a2 a3 a4 a9 a10 = sdx (sdx (sdx a10)) from (by unfold sX10_chance_10; exact ((if_pos c22).trans ((if_neg c35).trans (if_neg c53))))])
  ·
    refine s_aload_n X (pc := 25) (x := (ad 0)) 2 dX10_chance_25 rfl ?_
    refine s_iload_n X (pc := 26) (x := sdx a10 / 65536 - sdx a10 / 65536 / a2 * a2) 1 dX10_chance_26 rfl ?_
    refine s_iload_n X (pc := 27) (x := sdx (sdx a10) / 65536 - sdx (sdx a10) / 65536 / (10 : Int32) * (10 : Int32)) 0 dX10_chance_27 rfl ?_
    refine s_callVv0 X (pc := 28) (w := wX10 G ad a0 a1 a2 a3 a4 a5 a6 a7 a8 a9 (sdx (sdx a10)) a11 a12 a13 a14 a15 a16 a17 a18 a19 a20 a21 a22 a23 a24 a25 a26 a27 a28 a29 a30 a31 a32 a33 a34 a35 a36 a37 a38) (n := 2) (st := []) (As := [.int (sdx a10 / 65536 - sdx a10 / 65536 / a2 * a2), .int (sdx (sdx a10) / 65536 - sdx (sdx a10) / 65536 / (10 : Int32) * (10 : Int32))]) (w2 := wX10 G ad a0 a1 a2 a3 a4 a5 a6 a7 a8 (sX10_drawNow_9 a9 (sdx a10 / 65536 - sdx a10 / 65536 / a2 * a2) (sdx (sdx a10) / 65536 - sdx (sdx a10) / 65536 / (10 : Int32) * (10 : Int32))) (sdx (sdx a10)) a11 a12 a13 a14 a15 a16 a17 a18 a19 a20 a21 a22 a23 a24 a25 a26 a27 a28 a29 a30 a31 a32 a33 a34 a35 a36 a37 a38) 0 (c_X10_drawNow l G ad a0 a1 a2 a3 a4 a5 a6 a7 a8 a9 (sdx (sdx a10)) a11 a12 a13 a14 a15 a16 a17 a18 a19 a20 a21 a22 a23 a24 a25 a26 a27 a28 a29 a30 a31 a32 a33 a34 a35 a36 a37 a38 (sdx a10 / 65536 - sdx a10 / 65536 / a2 * a2) (sdx (sdx a10) / 65536 - sdx (sdx a10) / 65536 / (10 : Int32) * (10 : Int32)) qh.1 qh4) gX10_chance_X10_drawNow rfl (by decide +kernel) ⟨Nat.le_of_ble_eq_true rfl, Nat.le_of_ble_eq_true rfl⟩ 0 rfl rfl rfl rfl (Nat.le_of_ble_eq_true rfl) (Nat.zero_le _) (Nat.zero_le _) dX10_chance_28 ?_
    refine s_aload_n X (pc := 31) (x := (ad 0)) 2 dX10_chance_31 rfl ?_
    refine s_get X (pc := 32) (v := .int a4) iX10_chance_X10 0 rfl rfl 4 (by decide) kX10_chance_94 rfl rfl dX10_chance_32 ?_
    refine s_if_le X (pc := 35) (tgt := 62) dX10_chance_35 (by decide) (fun c35 => ?_) (fun c35 => ?_)
    ·
      exact s_vret X (pc := 62) dX10_chance_62 (by rw [show sX10_chance_9 a2 a3 a4 a9 a10 = sX10_drawNow_9 a9 (sdx a10 / 65536 - sdx a10 / 65536 / a2 * a2) (sdx (sdx a10) / 65536 - sdx (sdx a10) / 65536 / (10 : Int32) * (10 : Int32)) from (by unfold sX10_chance_9; exact ((if_neg c22).trans (if_pos c35))), show sX10_chance_10 a2 a3 a4 a9 a10 = sdx (sdx a10) from (by unfold sX10_chance_10; exact ((if_neg c22).trans (if_pos c35)))])
    ·
      refine s_aload_n X (pc := 38) (x := (ad 0)) 2 dX10_chance_38 rfl ?_
      refine s_aload_n X (pc := 39) (x := (ad 0)) 2 dX10_chance_39 rfl ?_
      refine s_get X (pc := 40) (v := .int a4) iX10_chance_X10 0 rfl rfl 4 (by decide) kX10_chance_94 rfl rfl dX10_chance_40 ?_
      refine s_callVi0 X (pc := 43) (r := sdx (sdx (sdx a10)) / 65536 - sdx (sdx (sdx a10)) / 65536 / a4 * a4) (w := wX10 G ad a0 a1 a2 a3 a4 a5 a6 a7 a8 (sX10_drawNow_9 a9 (sdx a10 / 65536 - sdx a10 / 65536 / a2 * a2) (sdx (sdx a10) / 65536 - sdx (sdx a10) / 65536 / (10 : Int32) * (10 : Int32))) (sdx (sdx a10)) a11 a12 a13 a14 a15 a16 a17 a18 a19 a20 a21 a22 a23 a24 a25 a26 a27 a28 a29 a30 a31 a32 a33 a34 a35 a36 a37 a38) (n := 1) (st := []) (As := [.int a4]) (w2 := wX10 G ad a0 a1 a2 a3 a4 a5 a6 a7 a8 (sX10_drawNow_9 a9 (sdx a10 / 65536 - sdx a10 / 65536 / a2 * a2) (sdx (sdx a10) / 65536 - sdx (sdx a10) / 65536 / (10 : Int32) * (10 : Int32))) (sdx (sdx (sdx a10))) a11 a12 a13 a14 a15 a16 a17 a18 a19 a20 a21 a22 a23 a24 a25 a26 a27 a28 a29 a30 a31 a32 a33 a34 a35 a36 a37 a38) 0 (c_X10_draw l G ad a0 a1 a2 a3 a4 a5 a6 a7 a8 (sX10_drawNow_9 a9 (sdx a10 / 65536 - sdx a10 / 65536 / a2 * a2) (sdx (sdx a10) / 65536 - sdx (sdx a10) / 65536 / (10 : Int32) * (10 : Int32))) (sdx (sdx a10)) a11 a12 a13 a14 a15 a16 a17 a18 a19 a20 a21 a22 a23 a24 a25 a26 a27 a28 a29 a30 a31 a32 a33 a34 a35 a36 a37 a38 a4 (by grind)) gX10_chance_X10_draw rfl (by decide +kernel) ⟨Nat.le_of_ble_eq_true rfl, Nat.le_of_ble_eq_true rfl⟩ 0 rfl rfl rfl rfl (Nat.le_of_ble_eq_true rfl) (Nat.zero_le _) (Nat.zero_le _) dX10_chance_43 ?_
      have qc := rem_in (x := sdx (sdx (sdx a10))) (n := a4) (sdx_nn (sdx_nn (sdx_nn s0))) (Int32.not_le.mp c35)
      have qc5 := Int32.lt_of_lt_of_le qc.2 cb
      refine s_istore_n X (pc := 46) (i := 3) (lv2 := [(3, .int (sdx (sdx (sdx a10)) / 65536 - sdx (sdx (sdx a10)) / 65536 / a4 * a4)), (2, .int (sdx (sdx a10) / 65536 - sdx (sdx a10) / 65536 / (10 : Int32) * (10 : Int32))), (1, .int (sdx a10 / 65536 - sdx a10 / 65536 / a2 * a2)), (0, .ref (ad 0))]) dX10_chance_46 rfl (by decide) rfl ?_
      refine s_aload_n X (pc := 47) (x := (ad 0)) 3 dX10_chance_47 rfl ?_
      refine s_iload_n X (pc := 48) (x := sdx (sdx (sdx a10)) / 65536 - sdx (sdx (sdx a10)) / 65536 / a4 * a4) 0 dX10_chance_48 rfl ?_
      refine s_iload_n X (pc := 49) (x := sdx a10 / 65536 - sdx a10 / 65536 / a2 * a2) 2 dX10_chance_49 rfl ?_
      refine s_callVi0 X (pc := 50) (r := rX10_canBring (sX10_drawNow_9 a9 (sdx a10 / 65536 - sdx a10 / 65536 / a2 * a2) (sdx (sdx a10) / 65536 - sdx (sdx a10) / 65536 / (10 : Int32) * (10 : Int32))) (sdx (sdx (sdx a10)) / 65536 - sdx (sdx (sdx a10)) / 65536 / a4 * a4) (sdx a10 / 65536 - sdx a10 / 65536 / a2 * a2)) (w := wX10 G ad a0 a1 a2 a3 a4 a5 a6 a7 a8 (sX10_drawNow_9 a9 (sdx a10 / 65536 - sdx a10 / 65536 / a2 * a2) (sdx (sdx a10) / 65536 - sdx (sdx a10) / 65536 / (10 : Int32) * (10 : Int32))) (sdx (sdx (sdx a10))) a11 a12 a13 a14 a15 a16 a17 a18 a19 a20 a21 a22 a23 a24 a25 a26 a27 a28 a29 a30 a31 a32 a33 a34 a35 a36 a37 a38) (n := 2) (st := []) (As := [.int (sdx (sdx (sdx a10)) / 65536 - sdx (sdx (sdx a10)) / 65536 / a4 * a4), .int (sdx a10 / 65536 - sdx a10 / 65536 / a2 * a2)]) (w2 := wX10 G ad a0 a1 a2 a3 a4 a5 a6 a7 a8 (sX10_drawNow_9 a9 (sdx a10 / 65536 - sdx a10 / 65536 / a2 * a2) (sdx (sdx a10) / 65536 - sdx (sdx a10) / 65536 / (10 : Int32) * (10 : Int32))) (sdx (sdx (sdx a10))) a11 a12 a13 a14 a15 a16 a17 a18 a19 a20 a21 a22 a23 a24 a25 a26 a27 a28 a29 a30 a31 a32 a33 a34 a35 a36 a37 a38) 0 (c_X10_canBring l G ad a0 a1 a2 a3 a4 a5 a6 a7 a8 (sX10_drawNow_9 a9 (sdx a10 / 65536 - sdx a10 / 65536 / a2 * a2) (sdx (sdx a10) / 65536 - sdx (sdx a10) / 65536 / (10 : Int32) * (10 : Int32))) (sdx (sdx (sdx a10))) a11 a12 a13 a14 a15 a16 a17 a18 a19 a20 a21 a22 a23 a24 a25 a26 a27 a28 a29 a30 a31 a32 a33 a34 a35 a36 a37 a38 (sdx (sdx (sdx a10)) / 65536 - sdx (sdx (sdx a10)) / 65536 / a4 * a4) (sdx a10 / 65536 - sdx a10 / 65536 / a2 * a2) qc.1 qc5 qh.1 qh4) gX10_chance_X10_canBring rfl (by decide +kernel) ⟨Nat.le_of_ble_eq_true rfl, Nat.le_of_ble_eq_true rfl⟩ 0 rfl rfl rfl rfl (Nat.le_of_ble_eq_true rfl) (Nat.zero_le _) (Nat.zero_le _) dX10_chance_50 ?_
      refine s_if_eq X (pc := 53) (tgt := 62) dX10_chance_53 (by decide) (fun c53 => ?_) (fun c53 => ?_)
      ·
        exact s_vret X (pc := 62) dX10_chance_62 (by rw [show sX10_chance_9 a2 a3 a4 a9 a10 = sX10_drawNow_9 a9 (sdx a10 / 65536 - sdx a10 / 65536 / a2 * a2) (sdx (sdx a10) / 65536 - sdx (sdx a10) / 65536 / (10 : Int32) * (10 : Int32)) from (by unfold sX10_chance_9; exact ((if_neg c22).trans ((if_neg c35).trans (if_pos c53)))), show sX10_chance_10 a2 a3 a4 a9 a10 = sdx (sdx (sdx a10)) from (by unfold sX10_chance_10; exact ((if_neg c22).trans ((if_neg c35).trans (if_pos c53))))])
      ·
        refine s_aload_n X (pc := 56) (x := (ad 0)) 3 dX10_chance_56 rfl ?_
        refine s_iload_n X (pc := 57) (x := sdx (sdx (sdx a10)) / 65536 - sdx (sdx (sdx a10)) / 65536 / a4 * a4) 0 dX10_chance_57 rfl ?_
        refine s_iload_n X (pc := 58) (x := sdx a10 / 65536 - sdx a10 / 65536 / a2 * a2) 2 dX10_chance_58 rfl ?_
        refine s_callVv0 X (pc := 59) (w := wX10 G ad a0 a1 a2 a3 a4 a5 a6 a7 a8 (sX10_drawNow_9 a9 (sdx a10 / 65536 - sdx a10 / 65536 / a2 * a2) (sdx (sdx a10) / 65536 - sdx (sdx a10) / 65536 / (10 : Int32) * (10 : Int32))) (sdx (sdx (sdx a10))) a11 a12 a13 a14 a15 a16 a17 a18 a19 a20 a21 a22 a23 a24 a25 a26 a27 a28 a29 a30 a31 a32 a33 a34 a35 a36 a37 a38) (n := 2) (st := []) (As := [.int (sdx (sdx (sdx a10)) / 65536 - sdx (sdx (sdx a10)) / 65536 / a4 * a4), .int (sdx a10 / 65536 - sdx a10 / 65536 / a2 * a2)]) (w2 := wX10 G ad a0 a1 a2 a3 a4 a5 a6 a7 a8 (sX10_bringNow_9 (sX10_drawNow_9 a9 (sdx a10 / 65536 - sdx a10 / 65536 / a2 * a2) (sdx (sdx a10) / 65536 - sdx (sdx a10) / 65536 / (10 : Int32) * (10 : Int32))) (sdx (sdx (sdx a10)) / 65536 - sdx (sdx (sdx a10)) / 65536 / a4 * a4) (sdx a10 / 65536 - sdx a10 / 65536 / a2 * a2)) (sdx (sdx (sdx a10))) a11 a12 a13 a14 a15 a16 a17 a18 a19 a20 a21 a22 a23 a24 a25 a26 a27 a28 a29 a30 a31 a32 a33 a34 a35 a36 a37 a38) 0 (c_X10_bringNow l G ad a0 a1 a2 a3 a4 a5 a6 a7 a8 (sX10_drawNow_9 a9 (sdx a10 / 65536 - sdx a10 / 65536 / a2 * a2) (sdx (sdx a10) / 65536 - sdx (sdx a10) / 65536 / (10 : Int32) * (10 : Int32))) (sdx (sdx (sdx a10))) a11 a12 a13 a14 a15 a16 a17 a18 a19 a20 a21 a22 a23 a24 a25 a26 a27 a28 a29 a30 a31 a32 a33 a34 a35 a36 a37 a38 (sdx (sdx (sdx a10)) / 65536 - sdx (sdx (sdx a10)) / 65536 / a4 * a4) (sdx a10 / 65536 - sdx a10 / 65536 / a2 * a2) qc.1 qc5 qh.1 qh4) gX10_chance_X10_bringNow rfl (by decide +kernel) ⟨Nat.le_of_ble_eq_true rfl, Nat.le_of_ble_eq_true rfl⟩ 0 rfl rfl rfl rfl (Nat.le_of_ble_eq_true rfl) (Nat.zero_le _) (Nat.zero_le _) dX10_chance_59 ?_
        exact s_vret X (pc := 62) dX10_chance_62 (by rw [show sX10_chance_9 a2 a3 a4 a9 a10 = sX10_bringNow_9 (sX10_drawNow_9 a9 (sdx a10 / 65536 - sdx a10 / 65536 / a2 * a2) (sdx (sdx a10) / 65536 - sdx (sdx a10) / 65536 / (10 : Int32) * (10 : Int32))) (sdx (sdx (sdx a10)) / 65536 - sdx (sdx (sdx a10)) / 65536 / a4 * a4) (sdx a10 / 65536 - sdx a10 / 65536 / a2 * a2) from (by unfold sX10_chance_9; exact ((if_neg c22).trans ((if_neg c35).trans (if_neg c53)))), show sX10_chance_10 a2 a3 a4 a9 a10 = sdx (sdx (sdx a10)) from (by unfold sX10_chance_10; exact ((if_neg c22).trans ((if_neg c35).trans (if_neg c53))))])

theorem NI_draw {b : Int} {f : Nat → Int32} {p0 p1 : Int32} (hf : NI b f) (x0 : 0 ≤ p0) (x1 : p0 < 4) : NI b (sX10_drawNow_9 f p0 p1) := by
  have l0 := cl_lt (n := 4) (b := 4) rfl x0 x1
  have i8 : ((8 : Int32) + p0).toNatClampNeg = 8 + p0.toNatClampNeg := ixA 8 x0 (by omega)
  unfold sX10_drawNow_9
  rw [i8]
  exact NI_upd (NI_upd hf (by omega) (fun h hh e => by omega)) (by omega) (fun h hh e => by omega)
theorem NI_bring {b : Int} {f : Nat → Int32} {p0 p1 : Int32} (hf : NI b f) (x0 : 0 ≤ p0) (x1 : p0 < 5) (y0 : 0 ≤ p1) (y1 : p1 < 4) : NI b (sX10_bringNow_9 f p0 p1) := by
  have l0 := cl_lt (n := 5) (b := 5) rfl x0 x1
  have l1 := cl_lt (n := 4) (b := 4) rfl y0 y1
  have i4 : ((4 : Int32) + p1).toNatClampNeg = 4 + p1.toNatClampNeg := ixA 4 y0 (by omega)
  have i12 : ((12 : Int32) + p0).toNatClampNeg = 12 + p0.toNatClampNeg := ixA 12 x0 (by omega)
  unfold sX10_bringNow_9
  rw [i4, i12]
  exact NI_upd (NI_upd hf (by omega) (fun h hh e => by omega)) (by omega) (fun h hh e => x1)
theorem NI_chance {b : Int} {a2 a4 a10 : Int32} {a3 a9 : Nat → Int32} (hf : NI b a9) (h1 : 0 < a2) (h4 : a2 ≤ 4) (ca : 0 ≤ a4) (cb : a4 ≤ 5) (s0 : 0 ≤ a10) : NI b (sX10_chance_9 a2 a3 a4 a9 a10) := by
  have qh := rem_in (x := sdx a10) (sdx_nn s0) h1
  have qh4 := Int32.lt_of_lt_of_le qh.2 h4
  unfold sX10_chance_9
  split
  · split
    · exact hf
    · rename_i q
      have qc := rem_in (x := sdx (sdx (sdx a10))) (n := a4) (sdx_nn (sdx_nn (sdx_nn s0))) (Int32.not_le.mp q)
      split
      · exact hf
      · exact NI_bring hf qc.1 (Int32.lt_of_lt_of_le qc.2 cb) qh.1 qh4
  · split
    · exact NI_draw hf qh.1 qh4
    · rename_i q
      have qc := rem_in (x := sdx (sdx (sdx a10))) (n := a4) (sdx_nn (sdx_nn (sdx_nn s0))) (Int32.not_le.mp q)
      split
      · exact NI_draw hf qh.1 qh4
      · exact NI_bring (NI_draw hf qh.1 qh4) qc.1 (Int32.lt_of_lt_of_le qc.2 cb) qh.1 qh4
theorem chance_10 {a2 a4 a10 : Int32} {a3 a9 : Nat → Int32} (s0 : 0 ≤ a10) : 0 ≤ sX10_chance_10 a2 a3 a4 a9 a10 := by
  unfold sX10_chance_10
  repeat' split
  all_goals first | with_reducible exact sdx_nn (sdx_nn s0) | with_reducible exact sdx_nn (sdx_nn (sdx_nn s0))

theorem iX10_drift_X10 : ∀ z ∈ wsX100, z ∈ wsX10_drift := fun z h => List.mem_cons_of_mem _ (List.mem_append_right _ h)
theorem kX10_drift_87 : Cond.fieldLink RX10 87 "BathingCourtModel" (TX10 2).2.1 (TX10 2).2.2.1 ∈ wsX10_drift := List.mem_of_getElem? (i := 1) rfl
def aX10_drift_18 (a0 : Int32) (a1 : Nat → Int32) (a2 : Int32) (a3 : Nat → Int32) (a4 : Int32) (a5 a6 a7 a9 : Nat → Int32) (a10 : Int32) : Nat → (Nat → Int32) × Int32
  | 0 => (a9, a10)
  | k18 + 1 => if a2 ≤ 0 then (sX10_pass_9 a0 a1 a2 a5 a6 a7 ((aX10_drift_18 a0 a1 a2 a3 a4 a5 a6 a7 a9 a10 k18).1), (aX10_drift_18 a0 a1 a2 a3 a4 a5 a6 a7 a9 a10 k18).2) else (sX10_pass_9 a0 a1 a2 a5 a6 a7 (sX10_chance_9 a2 a3 a4 ((aX10_drift_18 a0 a1 a2 a3 a4 a5 a6 a7 a9 a10 k18).1) ((aX10_drift_18 a0 a1 a2 a3 a4 a5 a6 a7 a9 a10 k18).2)), sX10_chance_10 a2 a3 a4 ((aX10_drift_18 a0 a1 a2 a3 a4 a5 a6 a7 a9 a10 k18).1) ((aX10_drift_18 a0 a1 a2 a3 a4 a5 a6 a7 a9 a10 k18).2))
def rX10_drift (a0 : Int32) (a1 : Nat → Int32) (a2 : Int32) (a3 : Nat → Int32) (a4 : Int32) (a5 a6 a7 a9 : Nat → Int32) (a10 p0 : Int32) : Int32 := if (rX10_hoursRefused a0 a9 p0) = 0 then (rX10_allThat a4 ((aX10_drift_18 a0 a1 a2 a3 a4 a5 a6 a7 a9 a10 p0.toNatClampNeg).1) (2 : Int32)) else (rX10_hoursRefused a0 a9 p0)
def sX10_drift_9 (a0 : Int32) (a1 : Nat → Int32) (a2 : Int32) (a3 : Nat → Int32) (a4 : Int32) (a5 a6 a7 a9 : Nat → Int32) (a10 p0 : Int32) : Nat → Int32 := if (rX10_hoursRefused a0 a9 p0) = 0 then ((aX10_drift_18 a0 a1 a2 a3 a4 a5 a6 a7 a9 a10 p0.toNatClampNeg).1) else a9
def sX10_drift_10 (a0 : Int32) (a1 : Nat → Int32) (a2 : Int32) (a3 : Nat → Int32) (a4 : Int32) (a5 a6 a7 a9 : Nat → Int32) (a10 p0 : Int32) : Int32 := if (rX10_hoursRefused a0 a9 p0) = 0 then ((aX10_drift_18 a0 a1 a2 a3 a4 a5 a6 a7 a9 a10 p0.toNatClampNeg).2) else a10
def sX10_drift_26 (a0 : Int32) (a9 : Nat → Int32) (a26 p0 : Int32) : Int32 := if (rX10_hoursRefused a0 a9 p0) = 0 then (sX10_remember_26 a26) else a26
def sX10_drift_27 (a0 : Int32) (a9 : Nat → Int32) (a26 : Int32) (a27 : Nat → Int32) (p0 : Int32) : Nat → Int32 := if (rX10_hoursRefused a0 a9 p0) = 0 then (sX10_remember_27 a9 a26 a27) else a27
theorem NI_drift {a0 a2 a4 a10 : Int32} {a1 a3 a5 a6 a7 a9 : Nat → Int32} (h0 : 0 ≤ a2) (h4 : a2 ≤ 4) (ca : 0 ≤ a4) (cb : a4 ≤ 5) (s0 : 0 ≤ a10) {b : Int} (hf : NI b a9) (h9 : a9 22 ≤ 9000) : ∀ k : Nat, k ≤ 60 → NI (9000 + k) (aX10_drift_18 a0 a1 a2 a3 a4 a5 a6 a7 a9 a10 k).1 ∧ 0 ≤ (aX10_drift_18 a0 a1 a2 a3 a4 a5 a6 a7 a9 a10 k).2 := by
  intro k
  induction k with
  | zero =>
    intro _
    have := Int32.le_iff_toInt_le.mp h9
    exact ⟨⟨hf.1, this, hf.2.2⟩, s0⟩
  | succ k ih =>
    intro hk
    have ih := ih (by omega)
    rw [aX10_drift_18]
    rw [show (9000 : Int) + ((k + 1 : Nat) : Int) = 9000 + (k : Int) + 1 by omega]
    split
    · exact ⟨NI_pass h0 h4 (by omega) ih.1, ih.2⟩
    · rename_i q
      exact ⟨NI_pass h0 h4 (by omega) (NI_chance ih.1 (Int32.not_le.mp q) h4 ca cb ih.2), chance_10 ih.2⟩

set_option maxRecDepth 100000 in
set_option maxHeartbeats 4000000 in
theorem c_X10_drift (l : Launch) (G : GT) (ad : Nat → Nat) (a0 : Int32) (a1 : Nat → Int32) (a2 : Int32) (a3 : Nat → Int32) (a4 : Int32) (a5 a6 a7 a8 a9 : Nat → Int32) (a10 : Int32) (a11 : Nat → Int32) (a12 a13 a14 a15 a16 a17 : Int32) (a18 : Nat → Int32) (a19 : Int32) (a20 : Nat → Int32) (a21 : Int32) (a22 a23 a24 a25 : Nat → Int32) (a26 : Int32) (a27 a28 a29 a30 : Nat → Int32) (a31 : Int32) (a32 a33 : Nat → Int32) (a34 : Int32) (a35 a36 a37 a38 : Nat → Int32) (p0 : Int32) (h0 : 0 ≤ a2) (h4 : a2 ≤ 4) (ca : 0 ≤ a4) (cb : a4 ≤ 5) (t0 : 0 ≤ a0) (t12 : a0 ≤ 12) (s0 : 0 ≤ a10) (u0 : 0 ≤ a26) (u20 : a26 ≤ 20) (b : Int) (hN : NI b a9) : Ci l G yX10_drift wsX10_drift (rmL 3) [.ref (ad 0), .int p0] (wX10 G ad a0 a1 a2 a3 a4 a5 a6 a7 a8 a9 a10 a11 a12 a13 a14 a15 a16 a17 a18 a19 a20 a21 a22 a23 a24 a25 a26 a27 a28 a29 a30 a31 a32 a33 a34 a35 a36 a37 a38) (rX10_drift a0 a1 a2 a3 a4 a5 a6 a7 a9 a10 p0) (wX10 G ad a0 a1 a2 a3 a4 a5 a6 a7 a8 (sX10_drift_9 a0 a1 a2 a3 a4 a5 a6 a7 a9 a10 p0) (sX10_drift_10 a0 a1 a2 a3 a4 a5 a6 a7 a9 a10 p0) a11 a12 a13 a14 a15 a16 a17 a18 a19 a20 a21 a22 a23 a24 a25 (sX10_drift_26 a0 a9 a26 p0) (sX10_drift_27 a0 a9 a26 a27 p0) a28 a29 a30 a31 a32 a33 a34 a35 a36 a37 a38) := by
  refine ci_start .int (by decide) rfl rfl (Nat.le_of_ble_eq_true rfl) ?_
  intro p e s m args below meth c A X
  refine s_perm (lv2 := [(0, .ref (ad 0)), (1, .int p0)]) [0, 1] rfl ?_
  refine s_aload_n X (pc := 0) (x := (ad 0)) 0 dX10_drift_0 rfl ?_
  refine s_iload_n X (pc := 1) (x := p0) 1 dX10_drift_1 rfl ?_
  refine s_callVi0 X (pc := 2) (r := rX10_hoursRefused a0 a9 p0) (w := wX10 G ad a0 a1 a2 a3 a4 a5 a6 a7 a8 a9 a10 a11 a12 a13 a14 a15 a16 a17 a18 a19 a20 a21 a22 a23 a24 a25 a26 a27 a28 a29 a30 a31 a32 a33 a34 a35 a36 a37 a38) (n := 1) (st := []) (As := [.int p0]) (w2 := wX10 G ad a0 a1 a2 a3 a4 a5 a6 a7 a8 a9 a10 a11 a12 a13 a14 a15 a16 a17 a18 a19 a20 a21 a22 a23 a24 a25 a26 a27 a28 a29 a30 a31 a32 a33 a34 a35 a36 a37 a38) 1 (c_X10_hoursRefused l G ad a0 a1 a2 a3 a4 a5 a6 a7 a8 a9 a10 a11 a12 a13 a14 a15 a16 a17 a18 a19 a20 a21 a22 a23 a24 a25 a26 a27 a28 a29 a30 a31 a32 a33 a34 a35 a36 a37 a38 p0) gX10_drift_X10_hoursRefused rfl (by decide +kernel) ⟨Nat.le_of_ble_eq_true rfl, Nat.le_of_ble_eq_true rfl⟩ 0 rfl rfl rfl rfl (Nat.le_of_ble_eq_true rfl) (Nat.zero_le _) (Nat.zero_le _) dX10_drift_2 ?_
  refine s_istore_n X (pc := 5) (i := 2) (lv2 := [(2, .int (rX10_hoursRefused a0 a9 p0)), (0, .ref (ad 0)), (1, .int p0)]) dX10_drift_5 rfl (by decide) rfl ?_
  refine s_iload_n X (pc := 6) (x := rX10_hoursRefused a0 a9 p0) 0 dX10_drift_6 rfl ?_
  refine s_if_eq X (pc := 7) (tgt := 12) dX10_drift_7 (by decide) (fun c7 => ?_) (fun c7 => ?_)
  ·
    have q7 := hr0 c7
    have e0 := clampInt (x := p0) (by grind)
    have hNp := clampLe (x := p0) (n := 60) (b := 60) rfl (by grind) q7.1.2
    have tp : 0 < a0 := by grind
    refine s_aload_n X (pc := 12) (x := (ad 0)) 1 dX10_drift_12 rfl ?_
    refine s_callVv0 X (pc := 13) (w := wX10 G ad a0 a1 a2 a3 a4 a5 a6 a7 a8 a9 a10 a11 a12 a13 a14 a15 a16 a17 a18 a19 a20 a21 a22 a23 a24 a25 a26 a27 a28 a29 a30 a31 a32 a33 a34 a35 a36 a37 a38) (n := 0) (st := []) (As := []) (w2 := wX10 G ad a0 a1 a2 a3 a4 a5 a6 a7 a8 a9 a10 a11 a12 a13 a14 a15 a16 a17 a18 a19 a20 a21 a22 a23 a24 a25 (sX10_remember_26 a26) (sX10_remember_27 a9 a26 a27) a28 a29 a30 a31 a32 a33 a34 a35 a36 a37 a38) 0 (c_X10_remember l G ad a0 a1 a2 a3 a4 a5 a6 a7 a8 a9 a10 a11 a12 a13 a14 a15 a16 a17 a18 a19 a20 a21 a22 a23 a24 a25 a26 a27 a28 a29 a30 a31 a32 a33 a34 a35 a36 a37 a38 u0 u20) gX10_drift_X10_remember rfl (by decide +kernel) ⟨Nat.le_of_ble_eq_true rfl, Nat.le_of_ble_eq_true rfl⟩ 0 rfl rfl rfl rfl (Nat.le_of_ble_eq_true rfl) (Nat.zero_le _) (Nat.zero_le _) dX10_drift_13 ?_
    refine s_iconst X (pc := 16) (v := 0) dX10_drift_16 (by decide) ?_
    refine s_istore_n X (pc := 17) (i := 3) (lv2 := [(3, .int (0 : Int32)), (2, .int (rX10_hoursRefused a0 a9 p0)), (0, .ref (ad 0)), (1, .int p0)]) dX10_drift_17 rfl (by decide) rfl ?_
    refine s_perm (lv2 := [(0, .ref (ad 0)), (1, .int p0), (2, .int (rX10_hoursRefused a0 a9 p0)), (3, .int (0 : Int32))]) [2, 3, 1, 0] rfl ?_
    have L18 : ∀ (n18 k18 : Nat), k18 + n18 = p0.toNatClampNeg → Sm p l e (rmL 3) s m args below meth c G A 4 0 0 (Qci below G A args s (rX10_drift a0 a1 a2 a3 a4 a5 a6 a7 a9 a10 p0) (wX10 G ad a0 a1 a2 a3 a4 a5 a6 a7 a8 (sX10_drift_9 a0 a1 a2 a3 a4 a5 a6 a7 a9 a10 p0) (sX10_drift_10 a0 a1 a2 a3 a4 a5 a6 a7 a9 a10 p0) a11 a12 a13 a14 a15 a16 a17 a18 a19 a20 a21 a22 a23 a24 a25 (sX10_drift_26 a0 a9 a26 p0) (sX10_drift_27 a0 a9 a26 a27 p0) a28 a29 a30 a31 a32 a33 a34 a35 a36 a37 a38)) 18 [(0, .ref (ad 0)), (1, .int p0), (2, .int (rX10_hoursRefused a0 a9 p0)), (3, .int (nI k18))] [] (wX10 G ad a0 a1 a2 a3 a4 a5 a6 a7 a8 ((aX10_drift_18 a0 a1 a2 a3 a4 a5 a6 a7 a9 a10 k18).1) ((aX10_drift_18 a0 a1 a2 a3 a4 a5 a6 a7 a9 a10 k18).2) a11 a12 a13 a14 a15 a16 a17 a18 a19 a20 a21 a22 a23 a24 a25 (sX10_remember_26 a26) (sX10_remember_27 a9 a26 a27) a28 a29 a30 a31 a32 a33 a34 a35 a36 a37 a38) := by
      intro n18
      induction n18 with
      | zero =>
        intro k18 hk18
        have hK18 : k18 = p0.toNatClampNeg := by omega
        rw [hK18]
        have tk18 : (nI p0.toNatClampNeg).toInt = ((p0.toNatClampNeg : Nat) : Int) := nI_toInt (by omega)
        have eN18 : (p0).toInt = ((p0.toNatClampNeg : Nat) : Int) := e0
        refine s_iload_n X (pc := 18) (x := nI p0.toNatClampNeg) 3 dX10_drift_18 rfl ?_
        refine s_iload_n X (pc := 19) (x := p0) 1 dX10_drift_19 rfl ?_
        refine s_icmp_ge X (pc := 20) (tgt := 44) dX10_drift_20 (by decide) (fun c20 => ?_) (fun c20 => ?_)
        ·
          refine s_aload_n X (pc := 44) (x := (ad 0)) 0 dX10_drift_44 rfl ?_
          refine s_iconst X (pc := 45) (v := 2) dX10_drift_45 (by decide) ?_
          refine s_callVi0 X (pc := 46) (r := rX10_allThat a4 ((aX10_drift_18 a0 a1 a2 a3 a4 a5 a6 a7 a9 a10 p0.toNatClampNeg).1) (2 : Int32)) (w := wX10 G ad a0 a1 a2 a3 a4 a5 a6 a7 a8 ((aX10_drift_18 a0 a1 a2 a3 a4 a5 a6 a7 a9 a10 p0.toNatClampNeg).1) ((aX10_drift_18 a0 a1 a2 a3 a4 a5 a6 a7 a9 a10 p0.toNatClampNeg).2) a11 a12 a13 a14 a15 a16 a17 a18 a19 a20 a21 a22 a23 a24 a25 (sX10_remember_26 a26) (sX10_remember_27 a9 a26 a27) a28 a29 a30 a31 a32 a33 a34 a35 a36 a37 a38) (n := 1) (st := []) (As := [.int (2 : Int32)]) (w2 := wX10 G ad a0 a1 a2 a3 a4 a5 a6 a7 a8 ((aX10_drift_18 a0 a1 a2 a3 a4 a5 a6 a7 a9 a10 p0.toNatClampNeg).1) ((aX10_drift_18 a0 a1 a2 a3 a4 a5 a6 a7 a9 a10 p0.toNatClampNeg).2) a11 a12 a13 a14 a15 a16 a17 a18 a19 a20 a21 a22 a23 a24 a25 (sX10_remember_26 a26) (sX10_remember_27 a9 a26 a27) a28 a29 a30 a31 a32 a33 a34 a35 a36 a37 a38) 0 (c_X10_allThat l G ad a0 a1 a2 a3 a4 a5 a6 a7 a8 ((aX10_drift_18 a0 a1 a2 a3 a4 a5 a6 a7 a9 a10 p0.toNatClampNeg).1) ((aX10_drift_18 a0 a1 a2 a3 a4 a5 a6 a7 a9 a10 p0.toNatClampNeg).2) a11 a12 a13 a14 a15 a16 a17 a18 a19 a20 a21 a22 a23 a24 a25 (sX10_remember_26 a26) (sX10_remember_27 a9 a26 a27) a28 a29 a30 a31 a32 a33 a34 a35 a36 a37 a38 (2 : Int32) ca cb) gX10_drift_X10_allThat rfl (by decide +kernel) ⟨Nat.le_of_ble_eq_true rfl, Nat.le_of_ble_eq_true rfl⟩ 0 rfl rfl rfl rfl (Nat.le_of_ble_eq_true rfl) (Nat.zero_le _) (Nat.zero_le _) dX10_drift_46 ?_
          exact s_iret X (pc := 49) (v := rX10_allThat a4 ((aX10_drift_18 a0 a1 a2 a3 a4 a5 a6 a7 a9 a10 p0.toNatClampNeg).1) (2 : Int32)) dX10_drift_49 (Eq.symm (show rX10_drift a0 a1 a2 a3 a4 a5 a6 a7 a9 a10 p0 = rX10_allThat a4 ((aX10_drift_18 a0 a1 a2 a3 a4 a5 a6 a7 a9 a10 p0.toNatClampNeg).1) (2 : Int32) from (by unfold rX10_drift; exact (if_pos c7)))) (by rw [show sX10_drift_9 a0 a1 a2 a3 a4 a5 a6 a7 a9 a10 p0 = (aX10_drift_18 a0 a1 a2 a3 a4 a5 a6 a7 a9 a10 p0.toNatClampNeg).1 from (by unfold sX10_drift_9; exact (if_pos c7)), show sX10_drift_10 a0 a1 a2 a3 a4 a5 a6 a7 a9 a10 p0 = (aX10_drift_18 a0 a1 a2 a3 a4 a5 a6 a7 a9 a10 p0.toNatClampNeg).2 from (by unfold sX10_drift_10; exact (if_pos c7)), show sX10_drift_26 a0 a9 a26 p0 = sX10_remember_26 a26 from (by unfold sX10_drift_26; exact (if_pos c7)), show sX10_drift_27 a0 a9 a26 a27 p0 = sX10_remember_27 a9 a26 a27 from (by unfold sX10_drift_27; exact (if_pos c7))])
        ·
          exact absurd ((t_le eN18 tk18).mpr (by omega)) c20
      | succ n18 ih18 =>
        intro k18 hk18
        have hlt18 : k18 < p0.toNatClampNeg := by omega
        have tk18 : (nI k18).toInt = ((k18 : Nat) : Int) := nI_toInt (by omega)
        have eN18 : (p0).toInt = ((p0.toNatClampNeg : Nat) : Int) := e0
        refine s_iload_n X (pc := 18) (x := nI k18) 3 dX10_drift_18 rfl ?_
        refine s_iload_n X (pc := 19) (x := p0) 1 dX10_drift_19 rfl ?_
        refine s_icmp_ge X (pc := 20) (tgt := 44) dX10_drift_20 (by decide) (fun c20 => ?_) (fun c20 => ?_)
        ·
          exact absurd ((t_le eN18 tk18).mp c20) (by omega)
        ·
          refine s_aload_n X (pc := 23) (x := (ad 0)) 0 dX10_drift_23 rfl ?_
          refine s_get X (pc := 24) (v := .int a2) iX10_drift_X10 0 rfl rfl 2 (by decide) kX10_drift_87 rfl rfl dX10_drift_24 ?_
          refine s_if_le X (pc := 27) (tgt := 34) dX10_drift_27 (by decide) (fun c27 => ?_) (fun c27 => ?_)
          ·
            refine s_aload_n X (pc := 34) (x := (ad 0)) 0 dX10_drift_34 rfl ?_
            refine s_callVv0 X (pc := 35) (w := wX10 G ad a0 a1 a2 a3 a4 a5 a6 a7 a8 ((aX10_drift_18 a0 a1 a2 a3 a4 a5 a6 a7 a9 a10 k18).1) ((aX10_drift_18 a0 a1 a2 a3 a4 a5 a6 a7 a9 a10 k18).2) a11 a12 a13 a14 a15 a16 a17 a18 a19 a20 a21 a22 a23 a24 a25 (sX10_remember_26 a26) (sX10_remember_27 a9 a26 a27) a28 a29 a30 a31 a32 a33 a34 a35 a36 a37 a38) (n := 0) (st := []) (As := []) (w2 := wX10 G ad a0 a1 a2 a3 a4 a5 a6 a7 a8 (sX10_pass_9 a0 a1 a2 a5 a6 a7 ((aX10_drift_18 a0 a1 a2 a3 a4 a5 a6 a7 a9 a10 k18).1)) ((aX10_drift_18 a0 a1 a2 a3 a4 a5 a6 a7 a9 a10 k18).2) a11 a12 a13 a14 a15 a16 a17 a18 a19 a20 a21 a22 a23 a24 a25 (sX10_remember_26 a26) (sX10_remember_27 a9 a26 a27) a28 a29 a30 a31 a32 a33 a34 a35 a36 a37 a38) 2 (c_X10_pass l G ad a0 a1 a2 a3 a4 a5 a6 a7 a8 ((aX10_drift_18 a0 a1 a2 a3 a4 a5 a6 a7 a9 a10 k18).1) ((aX10_drift_18 a0 a1 a2 a3 a4 a5 a6 a7 a9 a10 k18).2) a11 a12 a13 a14 a15 a16 a17 a18 a19 a20 a21 a22 a23 a24 a25 (sX10_remember_26 a26) (sX10_remember_27 a9 a26 a27) a28 a29 a30 a31 a32 a33 a34 a35 a36 a37 a38 h0 h4 tp t12 (9000 + k18) (by first | with_reducible exact (NI_drift h0 h4 ca cb s0 hN q7.2.2 k18 (by omega)).1 | exact NI_chance (NI_drift h0 h4 ca cb s0 hN q7.2.2 k18 (by omega)).1 (Int32.not_le.mp c27) h4 ca cb (NI_drift h0 h4 ca cb s0 hN q7.2.2 k18 (by omega)).2)) gX10_drift_X10_pass rfl (by decide +kernel) ⟨Nat.le_of_ble_eq_true rfl, Nat.le_of_ble_eq_true rfl⟩ 0 rfl rfl rfl rfl (Nat.le_of_ble_eq_true rfl) (Nat.zero_le _) (Nat.zero_le _) dX10_drift_35 ?_
            refine s_iinc X (pc := 38) (v := nI (k18 + 1)) (lv2 := [(3, .int (nI (k18 + 1))), (0, .ref (ad 0)), (1, .int p0), (2, .int (rX10_hoursRefused a0 a9 p0))]) 3 dX10_drift_38 rfl (nI_1 _) (by decide) rfl ?_
            refine s_goto X (pc := 41) (tgt := 18) dX10_drift_41 (by decide) ?_
            refine s_perm (lv2 := [(0, .ref (ad 0)), (1, .int p0), (2, .int (rX10_hoursRefused a0 a9 p0)), (3, .int (nI (k18 + 1)))]) [1, 2, 3, 0] rfl ?_
            have hb18 : (aX10_drift_18 a0 a1 a2 a3 a4 a5 a6 a7 a9 a10 (k18 + 1)) = (sX10_pass_9 a0 a1 a2 a5 a6 a7 ((aX10_drift_18 a0 a1 a2 a3 a4 a5 a6 a7 a9 a10 k18).1), (aX10_drift_18 a0 a1 a2 a3 a4 a5 a6 a7 a9 a10 k18).2) := by rw [aX10_drift_18]; exact (if_pos c27)
            refine s_cast (lv2 := [(0, .ref (ad 0)), (1, .int p0), (2, .int (rX10_hoursRefused a0 a9 p0)), (3, .int (nI (k18 + 1)))]) (w2 := wX10 G ad a0 a1 a2 a3 a4 a5 a6 a7 a8 ((aX10_drift_18 a0 a1 a2 a3 a4 a5 a6 a7 a9 a10 (k18 + 1)).1) ((aX10_drift_18 a0 a1 a2 a3 a4 a5 a6 a7 a9 a10 (k18 + 1)).2) a11 a12 a13 a14 a15 a16 a17 a18 a19 a20 a21 a22 a23 a24 a25 (sX10_remember_26 a26) (sX10_remember_27 a9 a26 a27) a28 a29 a30 a31 a32 a33 a34 a35 a36 a37 a38) (by first | (rw [hb18]; done) | rfl) (by first | (rw [hb18]; done) | rfl) ?_
            exact ih18 (k18 + 1) (by omega)
          ·
            refine s_aload_n X (pc := 30) (x := (ad 0)) 0 dX10_drift_30 rfl ?_
            refine s_callVv0 X (pc := 31) (w := wX10 G ad a0 a1 a2 a3 a4 a5 a6 a7 a8 ((aX10_drift_18 a0 a1 a2 a3 a4 a5 a6 a7 a9 a10 k18).1) ((aX10_drift_18 a0 a1 a2 a3 a4 a5 a6 a7 a9 a10 k18).2) a11 a12 a13 a14 a15 a16 a17 a18 a19 a20 a21 a22 a23 a24 a25 (sX10_remember_26 a26) (sX10_remember_27 a9 a26 a27) a28 a29 a30 a31 a32 a33 a34 a35 a36 a37 a38) (n := 0) (st := []) (As := []) (w2 := wX10 G ad a0 a1 a2 a3 a4 a5 a6 a7 a8 (sX10_chance_9 a2 a3 a4 ((aX10_drift_18 a0 a1 a2 a3 a4 a5 a6 a7 a9 a10 k18).1) ((aX10_drift_18 a0 a1 a2 a3 a4 a5 a6 a7 a9 a10 k18).2)) (sX10_chance_10 a2 a3 a4 ((aX10_drift_18 a0 a1 a2 a3 a4 a5 a6 a7 a9 a10 k18).1) ((aX10_drift_18 a0 a1 a2 a3 a4 a5 a6 a7 a9 a10 k18).2)) a11 a12 a13 a14 a15 a16 a17 a18 a19 a20 a21 a22 a23 a24 a25 (sX10_remember_26 a26) (sX10_remember_27 a9 a26 a27) a28 a29 a30 a31 a32 a33 a34 a35 a36 a37 a38) 2 (c_X10_chance l G ad a0 a1 a2 a3 a4 a5 a6 a7 a8 ((aX10_drift_18 a0 a1 a2 a3 a4 a5 a6 a7 a9 a10 k18).1) ((aX10_drift_18 a0 a1 a2 a3 a4 a5 a6 a7 a9 a10 k18).2) a11 a12 a13 a14 a15 a16 a17 a18 a19 a20 a21 a22 a23 a24 a25 (sX10_remember_26 a26) (sX10_remember_27 a9 a26 a27) a28 a29 a30 a31 a32 a33 a34 a35 a36 a37 a38 (Int32.not_le.mp c27) h4 ca cb (NI_drift h0 h4 ca cb s0 hN q7.2.2 k18 (by omega)).2) gX10_drift_X10_chance rfl (by decide +kernel) ⟨Nat.le_of_ble_eq_true rfl, Nat.le_of_ble_eq_true rfl⟩ 0 rfl rfl rfl rfl (Nat.le_of_ble_eq_true rfl) (Nat.zero_le _) (Nat.zero_le _) dX10_drift_31 ?_
            refine s_aload_n X (pc := 34) (x := (ad 0)) 0 dX10_drift_34 rfl ?_
            refine s_callVv0 X (pc := 35) (w := wX10 G ad a0 a1 a2 a3 a4 a5 a6 a7 a8 (sX10_chance_9 a2 a3 a4 ((aX10_drift_18 a0 a1 a2 a3 a4 a5 a6 a7 a9 a10 k18).1) ((aX10_drift_18 a0 a1 a2 a3 a4 a5 a6 a7 a9 a10 k18).2)) (sX10_chance_10 a2 a3 a4 ((aX10_drift_18 a0 a1 a2 a3 a4 a5 a6 a7 a9 a10 k18).1) ((aX10_drift_18 a0 a1 a2 a3 a4 a5 a6 a7 a9 a10 k18).2)) a11 a12 a13 a14 a15 a16 a17 a18 a19 a20 a21 a22 a23 a24 a25 (sX10_remember_26 a26) (sX10_remember_27 a9 a26 a27) a28 a29 a30 a31 a32 a33 a34 a35 a36 a37 a38) (n := 0) (st := []) (As := []) (w2 := wX10 G ad a0 a1 a2 a3 a4 a5 a6 a7 a8 (sX10_pass_9 a0 a1 a2 a5 a6 a7 (sX10_chance_9 a2 a3 a4 ((aX10_drift_18 a0 a1 a2 a3 a4 a5 a6 a7 a9 a10 k18).1) ((aX10_drift_18 a0 a1 a2 a3 a4 a5 a6 a7 a9 a10 k18).2))) (sX10_chance_10 a2 a3 a4 ((aX10_drift_18 a0 a1 a2 a3 a4 a5 a6 a7 a9 a10 k18).1) ((aX10_drift_18 a0 a1 a2 a3 a4 a5 a6 a7 a9 a10 k18).2)) a11 a12 a13 a14 a15 a16 a17 a18 a19 a20 a21 a22 a23 a24 a25 (sX10_remember_26 a26) (sX10_remember_27 a9 a26 a27) a28 a29 a30 a31 a32 a33 a34 a35 a36 a37 a38) 2 (c_X10_pass l G ad a0 a1 a2 a3 a4 a5 a6 a7 a8 (sX10_chance_9 a2 a3 a4 ((aX10_drift_18 a0 a1 a2 a3 a4 a5 a6 a7 a9 a10 k18).1) ((aX10_drift_18 a0 a1 a2 a3 a4 a5 a6 a7 a9 a10 k18).2)) (sX10_chance_10 a2 a3 a4 ((aX10_drift_18 a0 a1 a2 a3 a4 a5 a6 a7 a9 a10 k18).1) ((aX10_drift_18 a0 a1 a2 a3 a4 a5 a6 a7 a9 a10 k18).2)) a11 a12 a13 a14 a15 a16 a17 a18 a19 a20 a21 a22 a23 a24 a25 (sX10_remember_26 a26) (sX10_remember_27 a9 a26 a27) a28 a29 a30 a31 a32 a33 a34 a35 a36 a37 a38 h0 h4 tp t12 (9000 + k18) (by first | with_reducible exact (NI_drift h0 h4 ca cb s0 hN q7.2.2 k18 (by omega)).1 | exact NI_chance (NI_drift h0 h4 ca cb s0 hN q7.2.2 k18 (by omega)).1 (Int32.not_le.mp c27) h4 ca cb (NI_drift h0 h4 ca cb s0 hN q7.2.2 k18 (by omega)).2)) gX10_drift_X10_pass rfl (by decide +kernel) ⟨Nat.le_of_ble_eq_true rfl, Nat.le_of_ble_eq_true rfl⟩ 0 rfl rfl rfl rfl (Nat.le_of_ble_eq_true rfl) (Nat.zero_le _) (Nat.zero_le _) dX10_drift_35 ?_
            refine s_iinc X (pc := 38) (v := nI (k18 + 1)) (lv2 := [(3, .int (nI (k18 + 1))), (0, .ref (ad 0)), (1, .int p0), (2, .int (rX10_hoursRefused a0 a9 p0))]) 3 dX10_drift_38 rfl (nI_1 _) (by decide) rfl ?_
            refine s_goto X (pc := 41) (tgt := 18) dX10_drift_41 (by decide) ?_
            refine s_perm (lv2 := [(0, .ref (ad 0)), (1, .int p0), (2, .int (rX10_hoursRefused a0 a9 p0)), (3, .int (nI (k18 + 1)))]) [1, 2, 3, 0] rfl ?_
            have hb18 : (aX10_drift_18 a0 a1 a2 a3 a4 a5 a6 a7 a9 a10 (k18 + 1)) = (sX10_pass_9 a0 a1 a2 a5 a6 a7 (sX10_chance_9 a2 a3 a4 ((aX10_drift_18 a0 a1 a2 a3 a4 a5 a6 a7 a9 a10 k18).1) ((aX10_drift_18 a0 a1 a2 a3 a4 a5 a6 a7 a9 a10 k18).2)), sX10_chance_10 a2 a3 a4 ((aX10_drift_18 a0 a1 a2 a3 a4 a5 a6 a7 a9 a10 k18).1) ((aX10_drift_18 a0 a1 a2 a3 a4 a5 a6 a7 a9 a10 k18).2)) := by rw [aX10_drift_18]; exact (if_neg c27)
            refine s_cast (lv2 := [(0, .ref (ad 0)), (1, .int p0), (2, .int (rX10_hoursRefused a0 a9 p0)), (3, .int (nI (k18 + 1)))]) (w2 := wX10 G ad a0 a1 a2 a3 a4 a5 a6 a7 a8 ((aX10_drift_18 a0 a1 a2 a3 a4 a5 a6 a7 a9 a10 (k18 + 1)).1) ((aX10_drift_18 a0 a1 a2 a3 a4 a5 a6 a7 a9 a10 (k18 + 1)).2) a11 a12 a13 a14 a15 a16 a17 a18 a19 a20 a21 a22 a23 a24 a25 (sX10_remember_26 a26) (sX10_remember_27 a9 a26 a27) a28 a29 a30 a31 a32 a33 a34 a35 a36 a37 a38) (by first | (rw [hb18]; done) | rfl) (by first | (rw [hb18]; done) | rfl) ?_
            exact ih18 (k18 + 1) (by omega)
    exact L18 p0.toNatClampNeg 0 (Nat.zero_add _)
  ·
    refine s_iload_n X (pc := 10) (x := rX10_hoursRefused a0 a9 p0) 0 dX10_drift_10 rfl ?_
    exact s_iret X (pc := 11) (v := rX10_hoursRefused a0 a9 p0) dX10_drift_11 (Eq.symm (show rX10_drift a0 a1 a2 a3 a4 a5 a6 a7 a9 a10 p0 = rX10_hoursRefused a0 a9 p0 from (by unfold rX10_drift; exact (if_neg c7)))) (by rw [show sX10_drift_9 a0 a1 a2 a3 a4 a5 a6 a7 a9 a10 p0 = a9 from (by unfold sX10_drift_9; exact (if_neg c7)), show sX10_drift_10 a0 a1 a2 a3 a4 a5 a6 a7 a9 a10 p0 = a10 from (by unfold sX10_drift_10; exact (if_neg c7)), show sX10_drift_26 a0 a9 a26 p0 = a26 from (by unfold sX10_drift_26; exact (if_neg c7)), show sX10_drift_27 a0 a9 a26 a27 p0 = a27 from (by unfold sX10_drift_27; exact (if_neg c7))])

theorem iX10_undo_X10 : ∀ z ∈ wsX100, z ∈ wsX10_undo := fun z h => List.mem_cons_of_mem _ (List.mem_append_right _ h)
theorem kX10_undo_167 : Cond.fieldLink RX10 167 "BathingCourtModel" (TX10 26).2.1 (TX10 26).2.2.1 ∈ wsX10_undo := List.mem_of_getElem? (i := 1) rfl
theorem kX10_undo_28 : Cond.fieldLink RX10 28 "BathingCourtModel" (TX10 9).2.1 (TX10 9).2.2.1 ∈ wsX10_undo := List.mem_of_getElem? (i := 3) rfl
theorem kX10_undo_56 : Cond.fieldLink RX10 56 "BathingCourtModel" (TX10 27).2.1 (TX10 27).2.2.1 ∈ wsX10_undo := List.mem_of_getElem? (i := 4) rfl
theorem kX10_undo_c183 : Jvm.Cond.constant RX10 183 (-1000000003) ∈ wsX10_undo := List.mem_of_getElem? (i := 2) rfl
def aX10_undo_22 (a9 : Nat → Int32) (a26 : Int32) (a27 : Nat → Int32) : Nat → (Nat → Int32)
  | 0 => a9
  | k22 + 1 => upd (aX10_undo_22 a9 a26 a27 k22) (nI k22).toNatClampNeg (a27 (((23 : Int32) * (a26 - (1 : Int32))) + (nI k22)).toNatClampNeg)
def rX10_undo (a26 : Int32) : Int32 := if a26 = 0 then (-1000000003 : Int32) else (a26 - (1 : Int32))
def sX10_undo_9 (a9 : Nat → Int32) (a26 : Int32) (a27 : Nat → Int32) : Nat → Int32 := if a26 = 0 then a9 else (aX10_undo_22 a9 a26 a27 23)
def sX10_undo_26 (a26 : Int32) : Int32 := if a26 = 0 then a26 else (a26 - (1 : Int32))
set_option maxRecDepth 100000 in
set_option maxHeartbeats 4000000 in
theorem c_X10_undo (l : Launch) (G : GT) (ad : Nat → Nat) (a0 : Int32) (a1 : Nat → Int32) (a2 : Int32) (a3 : Nat → Int32) (a4 : Int32) (a5 a6 a7 a8 a9 : Nat → Int32) (a10 : Int32) (a11 : Nat → Int32) (a12 a13 a14 a15 a16 a17 : Int32) (a18 : Nat → Int32) (a19 : Int32) (a20 : Nat → Int32) (a21 : Int32) (a22 a23 a24 a25 : Nat → Int32) (a26 : Int32) (a27 a28 a29 a30 : Nat → Int32) (a31 : Int32) (a32 a33 : Nat → Int32) (a34 : Int32) (a35 a36 a37 a38 : Nat → Int32) (u0 : 0 ≤ a26) (u20 : a26 ≤ 20) : Ci l G yX10_undo wsX10_undo (rmL 0) [.ref (ad 0)] (wX10 G ad a0 a1 a2 a3 a4 a5 a6 a7 a8 a9 a10 a11 a12 a13 a14 a15 a16 a17 a18 a19 a20 a21 a22 a23 a24 a25 a26 a27 a28 a29 a30 a31 a32 a33 a34 a35 a36 a37 a38) (rX10_undo a26) (wX10 G ad a0 a1 a2 a3 a4 a5 a6 a7 a8 (sX10_undo_9 a9 a26 a27) a10 a11 a12 a13 a14 a15 a16 a17 a18 a19 a20 a21 a22 a23 a24 a25 (sX10_undo_26 a26) a27 a28 a29 a30 a31 a32 a33 a34 a35 a36 a37 a38) := by
  refine ci_start .int (by decide) rfl rfl (Nat.le_of_ble_eq_true rfl) ?_
  intro p e s m args below meth c A X
  refine s_perm (lv2 := [(0, .ref (ad 0))]) [0] rfl ?_
  refine s_aload_n X (pc := 0) (x := (ad 0)) 0 dX10_undo_0 rfl ?_
  refine s_get X (pc := 1) (v := .int a26) iX10_undo_X10 0 rfl rfl 26 (by decide) kX10_undo_167 rfl rfl dX10_undo_1 ?_
  refine s_if_ne X (pc := 4) (tgt := 10) dX10_undo_4 (by decide) (fun c4 => ?_) (fun c4 => ?_)
  ·
    refine s_aload_n X (pc := 10) (x := (ad 0)) 0 dX10_undo_10 rfl ?_
    refine s_dup X (pc := 11) dX10_undo_11 rfl ?_
    refine s_get X (pc := 12) (v := .int a26) iX10_undo_X10 0 rfl rfl 26 (by decide) kX10_undo_167 rfl rfl dX10_undo_12 ?_
    refine s_iconst X (pc := 15) (v := 1) dX10_undo_15 (by decide) ?_
    refine s_isub X (pc := 16) dX10_undo_16 ?_
    refine s_put X (pc := 17) (v := .int (a26 - (1 : Int32))) (w2 := wX10 G ad a0 a1 a2 a3 a4 a5 a6 a7 a8 a9 a10 a11 a12 a13 a14 a15 a16 a17 a18 a19 a20 a21 a22 a23 a24 a25 (a26 - (1 : Int32)) a27 a28 a29 a30 a31 a32 a33 a34 a35 a36 a37 a38) iX10_undo_X10 0 rfl rfl 26 (by decide) kX10_undo_167 rfl tyX10 tyX10_ok nmX10 rfl (ty := .int) (by decide +kernel) rfl rfl (Nat.le_of_ble_eq_true rfl) rfl dX10_undo_17 ?_
    refine s_iconst X (pc := 20) (v := 0) dX10_undo_20 (by decide) ?_
    refine s_istore_n X (pc := 21) (i := 1) (lv2 := [(1, .int (0 : Int32)), (0, .ref (ad 0))]) dX10_undo_21 rfl (by decide) rfl ?_
    refine s_perm (lv2 := [(0, .ref (ad 0)), (1, .int (0 : Int32))]) [1, 0] rfl ?_
    have L22 : ∀ (n22 k22 : Nat), k22 + n22 = 23 → Sm p l e (rmL 0) s m args below meth c G A 2 0 0 (Qci below G A args s (rX10_undo a26) (wX10 G ad a0 a1 a2 a3 a4 a5 a6 a7 a8 (sX10_undo_9 a9 a26 a27) a10 a11 a12 a13 a14 a15 a16 a17 a18 a19 a20 a21 a22 a23 a24 a25 (sX10_undo_26 a26) a27 a28 a29 a30 a31 a32 a33 a34 a35 a36 a37 a38)) 22 [(0, .ref (ad 0)), (1, .int (nI k22))] [] (wX10 G ad a0 a1 a2 a3 a4 a5 a6 a7 a8 (aX10_undo_22 a9 a26 a27 k22) a10 a11 a12 a13 a14 a15 a16 a17 a18 a19 a20 a21 a22 a23 a24 a25 (a26 - (1 : Int32)) a27 a28 a29 a30 a31 a32 a33 a34 a35 a36 a37 a38) := by
      intro n22
      induction n22 with
      | zero =>
        intro k22 hk22
        have hK22 : k22 = 23 := by omega
        rw [hK22]
        have tk22 : (nI 23).toInt = ((23 : Nat) : Int) := nI_toInt (by omega)
        have eN22 : ((23 : Int32)).toInt = ((23 : Nat) : Int) := rfl
        refine s_iload_n X (pc := 22) (x := nI 23) 1 dX10_undo_22 rfl ?_
        refine s_bipush X (pc := 23) (v := 23) dX10_undo_23 (by decide) ?_
        refine s_icmp_ge X (pc := 25) (tgt := 54) dX10_undo_25 (by decide) (fun c25 => ?_) (fun c25 => ?_)
        ·
          refine s_aload_n X (pc := 54) (x := (ad 0)) 0 dX10_undo_54 rfl ?_
          refine s_get X (pc := 55) (v := .int (a26 - (1 : Int32))) iX10_undo_X10 0 rfl rfl 26 (by decide) kX10_undo_167 rfl rfl dX10_undo_55 ?_
          exact s_iret X (pc := 58) (v := a26 - (1 : Int32)) dX10_undo_58 (Eq.symm (show rX10_undo a26 = a26 - (1 : Int32) from (by unfold rX10_undo; exact (if_neg c4)))) (by rw [show sX10_undo_9 a9 a26 a27 = (aX10_undo_22 a9 a26 a27 23) from (by unfold sX10_undo_9; exact (if_neg c4)), show sX10_undo_26 a26 = a26 - (1 : Int32) from (by unfold sX10_undo_26; exact (if_neg c4))])
        ·
          exact absurd ((t_le eN22 tk22).mpr (by omega)) c25
      | succ n22 ih22 =>
        intro k22 hk22
        have hlt22 : k22 < 23 := by omega
        have tk22 : (nI k22).toInt = ((k22 : Nat) : Int) := nI_toInt (by omega)
        have eN22 : ((23 : Int32)).toInt = ((23 : Nat) : Int) := rfl
        refine s_iload_n X (pc := 22) (x := nI k22) 1 dX10_undo_22 rfl ?_
        refine s_bipush X (pc := 23) (v := 23) dX10_undo_23 (by decide) ?_
        refine s_icmp_ge X (pc := 25) (tgt := 54) dX10_undo_25 (by decide) (fun c25 => ?_) (fun c25 => ?_)
        ·
          exact absurd ((t_le eN22 tk22).mp c25) (by omega)
        ·
          refine s_aload_n X (pc := 28) (x := (ad 0)) 0 dX10_undo_28 rfl ?_
          refine s_get X (pc := 29) (v := .ref (ad 10)) iX10_undo_X10 0 rfl rfl 9 (by decide) kX10_undo_28 rfl rfl dX10_undo_29 ?_
          refine s_iload_n X (pc := 32) (x := nI k22) 1 dX10_undo_32 rfl ?_
          refine s_aload_n X (pc := 33) (x := (ad 0)) 0 dX10_undo_33 rfl ?_
          refine s_get X (pc := 34) (v := .ref (ad 28)) iX10_undo_X10 0 rfl rfl 27 (by decide) kX10_undo_56 rfl rfl dX10_undo_34 ?_
          refine s_bipush X (pc := 37) (v := 23) dX10_undo_37 (by decide) ?_
          refine s_aload_n X (pc := 39) (x := (ad 0)) 0 dX10_undo_39 rfl ?_
          refine s_get X (pc := 40) (v := .int (a26 - (1 : Int32))) iX10_undo_X10 0 rfl rfl 26 (by decide) kX10_undo_167 rfl rfl dX10_undo_40 ?_
          refine s_imul X (pc := 43) dX10_undo_43 ?_
          refine s_iload_n X (pc := 44) (x := nI k22) 1 dX10_undo_44 rfl ?_
          refine s_iadd X (pc := 45) dX10_undo_45 ?_
          refine s_iald X (pc := 46) (n := 460) (f := a27) 15 rfl (m23v (by grind) (by grind) (by omega)) dX10_undo_46 ?_
          refine s_iast X (pc := 47) (n := 23) (f := (aX10_undo_22 a9 a26 a27 k22)) (w2 := wX10 G ad a0 a1 a2 a3 a4 a5 a6 a7 a8 (upd (aX10_undo_22 a9 a26 a27 k22) (nI k22).toNatClampNeg (a27 (((23 : Int32) * (a26 - (1 : Int32))) + (nI k22)).toNatClampNeg)) a10 a11 a12 a13 a14 a15 a16 a17 a18 a19 a20 a21 a22 a23 a24 a25 (a26 - (1 : Int32)) a27 a28 a29 a30 a31 a32 a33 a34 a35 a36 a37 a38) 7 rfl (vp_in_nI (by omega) (by decide)) rfl dX10_undo_47 ?_
          refine s_iinc X (pc := 48) (v := nI (k22 + 1)) (lv2 := [(1, .int (nI (k22 + 1))), (0, .ref (ad 0))]) 1 dX10_undo_48 rfl (nI_1 _) (by decide) rfl ?_
          refine s_goto X (pc := 51) (tgt := 22) dX10_undo_51 (by decide) ?_
          refine s_perm (lv2 := [(0, .ref (ad 0)), (1, .int (nI (k22 + 1)))]) [1, 0] rfl ?_
          have hb22 : (aX10_undo_22 a9 a26 a27 (k22 + 1)) = upd (aX10_undo_22 a9 a26 a27 k22) (nI k22).toNatClampNeg (a27 (((23 : Int32) * (a26 - (1 : Int32))) + (nI k22)).toNatClampNeg) := rfl
          refine s_cast (lv2 := [(0, .ref (ad 0)), (1, .int (nI (k22 + 1)))]) (w2 := wX10 G ad a0 a1 a2 a3 a4 a5 a6 a7 a8 (aX10_undo_22 a9 a26 a27 (k22 + 1)) a10 a11 a12 a13 a14 a15 a16 a17 a18 a19 a20 a21 a22 a23 a24 a25 (a26 - (1 : Int32)) a27 a28 a29 a30 a31 a32 a33 a34 a35 a36 a37 a38) (by first | (rw [hb22]; done) | rfl) (by first | (rw [hb22]; done) | rfl) ?_
          exact ih22 (k22 + 1) (by omega)
    exact L22 23 0 (Nat.zero_add _)
  ·
    refine s_ldc X (pc := 7) (v := -1000000003) kX10_undo_c183 dX10_undo_7 ?_
    exact s_iret X (pc := 9) (v := (-1000000003 : Int32)) dX10_undo_9 (Eq.symm (show rX10_undo a26 = (-1000000003 : Int32) from (by unfold rX10_undo; exact (if_pos c4)))) (by rw [show sX10_undo_9 a9 a26 a27 = a9 from (by unfold sX10_undo_9; exact (if_pos c4)), show sX10_undo_26 a26 = a26 from (by unfold sX10_undo_26; exact (if_pos c4))])

def aX10_isOpen_5 (a0 : Int32) (a1 a5 a7 a9 : Nat → Int32) (p0 p1 : Int32) : Nat → Int32
  | 0 => (0 : Int32)
  | k5 + 1 => if (aX10_isOpen_5 a0 a1 a5 a7 a9 p0 p1 k5) = 0 then (if (rX10_isDeepEnough a5 a7 p0 (rX10_depthBehind a0 a1 a9 (nI k5) p1)) = 0 then (0 : Int32) else (1 : Int32)) else (1 : Int32)
def rX10_isOpen (a0 : Int32) (a1 a5 a7 a9 : Nat → Int32) (p0 p1 : Int32) : Int32 := (aX10_isOpen_5 a0 a1 a5 a7 a9 p0 p1 10)
theorem bX10_isOpen0 (a0 : Int32) (a1 a5 a7 a9 : Nat → Int32) (p0 p1 : Int32) : ∀ k : Nat, aX10_isOpen_5 a0 a1 a5 a7 a9 p0 p1 k = 0 ∨ aX10_isOpen_5 a0 a1 a5 a7 a9 p0 p1 k = 1
  | 0 => Or.inl rfl
  | k + 1 => by
    rw [aX10_isOpen_5]
    repeat' split
    all_goals first | with_reducible exact Or.inl rfl | with_reducible exact Or.inr rfl
theorem bX10_isOpen (a0 : Int32) (a1 a5 a7 a9 : Nat → Int32) (p0 p1 : Int32) : rX10_isOpen a0 a1 a5 a7 a9 p0 p1 = 0 ∨ rX10_isOpen a0 a1 a5 a7 a9 p0 p1 = 1 := bX10_isOpen0 a0 a1 a5 a7 a9 p0 p1 10

set_option maxRecDepth 100000 in
set_option maxHeartbeats 4000000 in
theorem c_X10_isOpen (l : Launch) (G : GT) (ad : Nat → Nat) (a0 : Int32) (a1 : Nat → Int32) (a2 : Int32) (a3 : Nat → Int32) (a4 : Int32) (a5 a6 a7 a8 a9 : Nat → Int32) (a10 : Int32) (a11 : Nat → Int32) (a12 a13 a14 a15 a16 a17 : Int32) (a18 : Nat → Int32) (a19 : Int32) (a20 : Nat → Int32) (a21 : Int32) (a22 a23 a24 a25 : Nat → Int32) (a26 : Int32) (a27 a28 a29 a30 : Nat → Int32) (a31 : Int32) (a32 a33 : Nat → Int32) (a34 : Int32) (a35 a36 a37 a38 : Nat → Int32) (p0 p1 : Int32) (hc : vp_in p0 5) (tp : 0 < a0) (t12 : a0 ≤ 12) (n0 : 0 ≤ a9 22) (n9 : a9 22 ≤ 9060) (m0 : 0 ≤ p1) (m1 : p1 ≤ 100) : Ci l G yX10_isOpen wsX10_isOpen (rmL 2) [.ref (ad 0), .int p0, .int p1] (wX10 G ad a0 a1 a2 a3 a4 a5 a6 a7 a8 a9 a10 a11 a12 a13 a14 a15 a16 a17 a18 a19 a20 a21 a22 a23 a24 a25 a26 a27 a28 a29 a30 a31 a32 a33 a34 a35 a36 a37 a38) (rX10_isOpen a0 a1 a5 a7 a9 p0 p1) (wX10 G ad a0 a1 a2 a3 a4 a5 a6 a7 a8 a9 a10 a11 a12 a13 a14 a15 a16 a17 a18 a19 a20 a21 a22 a23 a24 a25 a26 a27 a28 a29 a30 a31 a32 a33 a34 a35 a36 a37 a38) := by
  refine ci_start .boolean (by decide) rfl rfl (Nat.le_of_ble_eq_true rfl) ?_
  intro p e s m args below meth c A X
  refine s_perm (lv2 := [(0, .ref (ad 0)), (1, .int p0), (2, .int p1)]) [0, 1, 2] rfl ?_
  refine s_iconst X (pc := 0) (v := 0) dX10_isOpen_0 (by decide) ?_
  refine s_istore_n X (pc := 1) (i := 3) (lv2 := [(3, .int (0 : Int32)), (0, .ref (ad 0)), (1, .int p0), (2, .int p1)]) dX10_isOpen_1 rfl (by decide) rfl ?_
  refine s_iconst X (pc := 2) (v := 0) dX10_isOpen_2 (by decide) ?_
  refine s_istore X (pc := 3) (i := 4) (lv2 := [(4, .int (0 : Int32)), (3, .int (0 : Int32)), (0, .ref (ad 0)), (1, .int p0), (2, .int p1)]) dX10_isOpen_3 (by decide) rfl ?_
  refine s_perm (lv2 := [(0, .ref (ad 0)), (1, .int p0), (2, .int p1), (3, .int (0 : Int32)), (4, .int (0 : Int32))]) [2, 3, 4, 1, 0] rfl ?_
  have L5 : ∀ (n5 k5 : Nat), k5 + n5 = 10 → Sm p l e (rmL 2) s m args below meth c G A 5 0 0 (Qci below G A args s (rX10_isOpen a0 a1 a5 a7 a9 p0 p1) (wX10 G ad a0 a1 a2 a3 a4 a5 a6 a7 a8 a9 a10 a11 a12 a13 a14 a15 a16 a17 a18 a19 a20 a21 a22 a23 a24 a25 a26 a27 a28 a29 a30 a31 a32 a33 a34 a35 a36 a37 a38)) 5 [(0, .ref (ad 0)), (1, .int p0), (2, .int p1), (3, .int (aX10_isOpen_5 a0 a1 a5 a7 a9 p0 p1 k5)), (4, .int (nI k5))] [] (wX10 G ad a0 a1 a2 a3 a4 a5 a6 a7 a8 a9 a10 a11 a12 a13 a14 a15 a16 a17 a18 a19 a20 a21 a22 a23 a24 a25 a26 a27 a28 a29 a30 a31 a32 a33 a34 a35 a36 a37 a38) := by
    intro n5
    induction n5 with
    | zero =>
      intro k5 hk5
      have hK5 : k5 = 10 := by omega
      rw [hK5]
      have tk5 : (nI 10).toInt = ((10 : Nat) : Int) := nI_toInt (by omega)
      have eN5 : ((10 : Int32)).toInt = ((10 : Nat) : Int) := rfl
      refine s_iload X (pc := 5) (x := nI 10) 4 dX10_isOpen_5 rfl ?_
      refine s_bipush X (pc := 7) (v := 10) dX10_isOpen_7 (by decide) ?_
      refine s_icmp_ge X (pc := 9) (tgt := 43) dX10_isOpen_9 (by decide) (fun c9 => ?_) (fun c9 => ?_)
      ·
        refine s_iload_n X (pc := 43) (x := (aX10_isOpen_5 a0 a1 a5 a7 a9 p0 p1 10)) 3 dX10_isOpen_43 rfl ?_
        exact s_zret X (pc := 44) (v := (aX10_isOpen_5 a0 a1 a5 a7 a9 p0 p1 10)) (bX10_isOpen _ _ _ _ _ _ _) dX10_isOpen_44 rfl rfl
      ·
        exact absurd ((t_le eN5 tk5).mpr (by omega)) c9
    | succ n5 ih5 =>
      intro k5 hk5
      have hlt5 : k5 < 10 := by omega
      have tk5 : (nI k5).toInt = ((k5 : Nat) : Int) := nI_toInt (by omega)
      have eN5 : ((10 : Int32)).toInt = ((10 : Nat) : Int) := rfl
      refine s_iload X (pc := 5) (x := nI k5) 4 dX10_isOpen_5 rfl ?_
      refine s_bipush X (pc := 7) (v := 10) dX10_isOpen_7 (by decide) ?_
      refine s_icmp_ge X (pc := 9) (tgt := 43) dX10_isOpen_9 (by decide) (fun c9 => ?_) (fun c9 => ?_)
      ·
        exact absurd ((t_le eN5 tk5).mp c9) (by omega)
      ·
        refine s_iload_n X (pc := 12) (x := (aX10_isOpen_5 a0 a1 a5 a7 a9 p0 p1 k5)) 3 dX10_isOpen_12 rfl ?_
        refine s_if_ne X (pc := 13) (tgt := 31) dX10_isOpen_13 (by decide) (fun c13 => ?_) (fun c13 => ?_)
        ·
          refine s_iconst X (pc := 31) (v := 1) dX10_isOpen_31 (by decide) ?_
          refine s_goto X (pc := 32) (tgt := 36) dX10_isOpen_32 (by decide) ?_
          refine s_istore_n X (pc := 36) (i := 3) (lv2 := [(3, .int (1 : Int32)), (0, .ref (ad 0)), (1, .int p0), (2, .int p1), (4, .int (nI k5))]) dX10_isOpen_36 rfl (by decide) rfl ?_
          refine s_iinc X (pc := 37) (v := nI (k5 + 1)) (lv2 := [(4, .int (nI (k5 + 1))), (3, .int (1 : Int32)), (0, .ref (ad 0)), (1, .int p0), (2, .int p1)]) 4 dX10_isOpen_37 rfl (nI_1 _) (by decide) rfl ?_
          refine s_goto X (pc := 40) (tgt := 5) dX10_isOpen_40 (by decide) ?_
          refine s_perm (lv2 := [(0, .ref (ad 0)), (1, .int p0), (2, .int p1), (3, .int (1 : Int32)), (4, .int (nI (k5 + 1)))]) [2, 3, 4, 1, 0] rfl ?_
          have hb5 : (aX10_isOpen_5 a0 a1 a5 a7 a9 p0 p1 (k5 + 1)) = (1 : Int32) := by rw [aX10_isOpen_5]; exact (if_neg c13)
          refine s_cast (lv2 := [(0, .ref (ad 0)), (1, .int p0), (2, .int p1), (3, .int (aX10_isOpen_5 a0 a1 a5 a7 a9 p0 p1 (k5 + 1))), (4, .int (nI (k5 + 1)))]) (w2 := wX10 G ad a0 a1 a2 a3 a4 a5 a6 a7 a8 a9 a10 a11 a12 a13 a14 a15 a16 a17 a18 a19 a20 a21 a22 a23 a24 a25 a26 a27 a28 a29 a30 a31 a32 a33 a34 a35 a36 a37 a38) (by first | (rw [hb5]; done) | rfl) (by first | (rw [hb5]; done) | rfl) ?_
          exact ih5 (k5 + 1) (by omega)
        ·
          refine s_aload_n X (pc := 16) (x := (ad 0)) 0 dX10_isOpen_16 rfl ?_
          refine s_iload_n X (pc := 17) (x := p0) 1 dX10_isOpen_17 rfl ?_
          refine s_aload_n X (pc := 18) (x := (ad 0)) 0 dX10_isOpen_18 rfl ?_
          refine s_iload X (pc := 19) (x := nI k5) 4 dX10_isOpen_19 rfl ?_
          refine s_iload_n X (pc := 21) (x := p1) 2 dX10_isOpen_21 rfl ?_
          refine s_callVi0 X (pc := 22) (r := rX10_depthBehind a0 a1 a9 (nI k5) p1) (w := wX10 G ad a0 a1 a2 a3 a4 a5 a6 a7 a8 a9 a10 a11 a12 a13 a14 a15 a16 a17 a18 a19 a20 a21 a22 a23 a24 a25 a26 a27 a28 a29 a30 a31 a32 a33 a34 a35 a36 a37 a38) (n := 2) (st := [.int p0, .ref (ad 0)]) (As := [.int (nI k5), .int p1]) (w2 := wX10 G ad a0 a1 a2 a3 a4 a5 a6 a7 a8 a9 a10 a11 a12 a13 a14 a15 a16 a17 a18 a19 a20 a21 a22 a23 a24 a25 a26 a27 a28 a29 a30 a31 a32 a33 a34 a35 a36 a37 a38) 0 (c_X10_depthBehind l G ad a0 a1 a2 a3 a4 a5 a6 a7 a8 a9 a10 a11 a12 a13 a14 a15 a16 a17 a18 a19 a20 a21 a22 a23 a24 a25 a26 a27 a28 a29 a30 a31 a32 a33 a34 a35 a36 a37 a38 (nI k5) p1 tp t12 (by grind)) gX10_isOpen_X10_depthBehind rfl (by decide +kernel) ⟨Nat.le_of_ble_eq_true rfl, Nat.le_of_ble_eq_true rfl⟩ 0 rfl rfl rfl rfl (Nat.le_of_ble_eq_true rfl) (Nat.zero_le _) (Nat.zero_le _) dX10_isOpen_22 ?_
          refine s_callVi0 X (pc := 25) (r := rX10_isDeepEnough a5 a7 p0 (rX10_depthBehind a0 a1 a9 (nI k5) p1)) (w := wX10 G ad a0 a1 a2 a3 a4 a5 a6 a7 a8 a9 a10 a11 a12 a13 a14 a15 a16 a17 a18 a19 a20 a21 a22 a23 a24 a25 a26 a27 a28 a29 a30 a31 a32 a33 a34 a35 a36 a37 a38) (n := 2) (st := []) (As := [.int p0, .int (rX10_depthBehind a0 a1 a9 (nI k5) p1)]) (w2 := wX10 G ad a0 a1 a2 a3 a4 a5 a6 a7 a8 a9 a10 a11 a12 a13 a14 a15 a16 a17 a18 a19 a20 a21 a22 a23 a24 a25 a26 a27 a28 a29 a30 a31 a32 a33 a34 a35 a36 a37 a38) 1 (c_X10_isDeepEnough l G ad a0 a1 a2 a3 a4 a5 a6 a7 a8 a9 a10 a11 a12 a13 a14 a15 a16 a17 a18 a19 a20 a21 a22 a23 a24 a25 a26 a27 a28 a29 a30 a31 a32 a33 a34 a35 a36 a37 a38 p0 (rX10_depthBehind a0 a1 a9 (nI k5) p1) hc) gX10_isOpen_X10_isDeepEnough rfl (by decide +kernel) ⟨Nat.le_of_ble_eq_true rfl, Nat.le_of_ble_eq_true rfl⟩ 0 rfl rfl rfl rfl (Nat.le_of_ble_eq_true rfl) (Nat.zero_le _) (Nat.zero_le _) dX10_isOpen_25 ?_
          refine s_if_eq X (pc := 28) (tgt := 35) dX10_isOpen_28 (by decide) (fun c28 => ?_) (fun c28 => ?_)
          ·
            refine s_iconst X (pc := 35) (v := 0) dX10_isOpen_35 (by decide) ?_
            refine s_istore_n X (pc := 36) (i := 3) (lv2 := [(3, .int (0 : Int32)), (0, .ref (ad 0)), (1, .int p0), (2, .int p1), (4, .int (nI k5))]) dX10_isOpen_36 rfl (by decide) rfl ?_
            refine s_iinc X (pc := 37) (v := nI (k5 + 1)) (lv2 := [(4, .int (nI (k5 + 1))), (3, .int (0 : Int32)), (0, .ref (ad 0)), (1, .int p0), (2, .int p1)]) 4 dX10_isOpen_37 rfl (nI_1 _) (by decide) rfl ?_
            refine s_goto X (pc := 40) (tgt := 5) dX10_isOpen_40 (by decide) ?_
            refine s_perm (lv2 := [(0, .ref (ad 0)), (1, .int p0), (2, .int p1), (3, .int (0 : Int32)), (4, .int (nI (k5 + 1)))]) [2, 3, 4, 1, 0] rfl ?_
            have hb5 : (aX10_isOpen_5 a0 a1 a5 a7 a9 p0 p1 (k5 + 1)) = (0 : Int32) := by rw [aX10_isOpen_5]; exact ((if_pos c13).trans (if_pos c28))
            refine s_cast (lv2 := [(0, .ref (ad 0)), (1, .int p0), (2, .int p1), (3, .int (aX10_isOpen_5 a0 a1 a5 a7 a9 p0 p1 (k5 + 1))), (4, .int (nI (k5 + 1)))]) (w2 := wX10 G ad a0 a1 a2 a3 a4 a5 a6 a7 a8 a9 a10 a11 a12 a13 a14 a15 a16 a17 a18 a19 a20 a21 a22 a23 a24 a25 a26 a27 a28 a29 a30 a31 a32 a33 a34 a35 a36 a37 a38) (by first | (rw [hb5]; done) | rfl) (by first | (rw [hb5]; done) | rfl) ?_
            exact ih5 (k5 + 1) (by omega)
          ·
            refine s_iconst X (pc := 31) (v := 1) dX10_isOpen_31 (by decide) ?_
            refine s_goto X (pc := 32) (tgt := 36) dX10_isOpen_32 (by decide) ?_
            refine s_istore_n X (pc := 36) (i := 3) (lv2 := [(3, .int (1 : Int32)), (0, .ref (ad 0)), (1, .int p0), (2, .int p1), (4, .int (nI k5))]) dX10_isOpen_36 rfl (by decide) rfl ?_
            refine s_iinc X (pc := 37) (v := nI (k5 + 1)) (lv2 := [(4, .int (nI (k5 + 1))), (3, .int (1 : Int32)), (0, .ref (ad 0)), (1, .int p0), (2, .int p1)]) 4 dX10_isOpen_37 rfl (nI_1 _) (by decide) rfl ?_
            refine s_goto X (pc := 40) (tgt := 5) dX10_isOpen_40 (by decide) ?_
            refine s_perm (lv2 := [(0, .ref (ad 0)), (1, .int p0), (2, .int p1), (3, .int (1 : Int32)), (4, .int (nI (k5 + 1)))]) [2, 3, 4, 1, 0] rfl ?_
            have hb5 : (aX10_isOpen_5 a0 a1 a5 a7 a9 p0 p1 (k5 + 1)) = (1 : Int32) := by rw [aX10_isOpen_5]; exact ((if_pos c13).trans (if_neg c28))
            refine s_cast (lv2 := [(0, .ref (ad 0)), (1, .int p0), (2, .int p1), (3, .int (aX10_isOpen_5 a0 a1 a5 a7 a9 p0 p1 (k5 + 1))), (4, .int (nI (k5 + 1)))]) (w2 := wX10 G ad a0 a1 a2 a3 a4 a5 a6 a7 a8 a9 a10 a11 a12 a13 a14 a15 a16 a17 a18 a19 a20 a21 a22 a23 a24 a25 a26 a27 a28 a29 a30 a31 a32 a33 a34 a35 a36 a37 a38) (by first | (rw [hb5]; done) | rfl) (by first | (rw [hb5]; done) | rfl) ?_
            exact ih5 (k5 + 1) (by omega)
  exact L5 10 0 (Nat.zero_add _)


def aX10_openSet_4 (a0 : Int32) (a1 a5 a7 a9 : Nat → Int32) (p0 : Int32) : Nat → Int32
  | 0 => (0 : Int32)
  | k4 + 1 => if (rX10_isOpen a0 a1 a5 a7 a9 p0 (nI k4)) = 0 then ((aX10_openSet_4 a0 a1 a5 a7 a9 p0 k4) ||| (0 : Int32)) else ((aX10_openSet_4 a0 a1 a5 a7 a9 p0 k4) ||| ((1 : Int32) <<< ((nI k4) &&& 31)))
def rX10_openSet (a0 : Int32) (a1 a5 a7 a9 : Nat → Int32) (p0 : Int32) : Int32 := (aX10_openSet_4 a0 a1 a5 a7 a9 p0 12)
set_option maxRecDepth 100000 in
set_option maxHeartbeats 4000000 in
theorem c_X10_openSet (l : Launch) (G : GT) (ad : Nat → Nat) (a0 : Int32) (a1 : Nat → Int32) (a2 : Int32) (a3 : Nat → Int32) (a4 : Int32) (a5 a6 a7 a8 a9 : Nat → Int32) (a10 : Int32) (a11 : Nat → Int32) (a12 a13 a14 a15 a16 a17 : Int32) (a18 : Nat → Int32) (a19 : Int32) (a20 : Nat → Int32) (a21 : Int32) (a22 a23 a24 a25 : Nat → Int32) (a26 : Int32) (a27 a28 a29 a30 : Nat → Int32) (a31 : Int32) (a32 a33 : Nat → Int32) (a34 : Int32) (a35 a36 a37 a38 : Nat → Int32) (p0 : Int32) (hc : vp_in p0 5) (tp : 0 < a0) (t12 : a0 ≤ 12) (n0 : 0 ≤ a9 22) (n9 : a9 22 ≤ 9060) : Ci l G yX10_openSet wsX10_openSet (rmL 3) [.ref (ad 0), .int p0] (wX10 G ad a0 a1 a2 a3 a4 a5 a6 a7 a8 a9 a10 a11 a12 a13 a14 a15 a16 a17 a18 a19 a20 a21 a22 a23 a24 a25 a26 a27 a28 a29 a30 a31 a32 a33 a34 a35 a36 a37 a38) (rX10_openSet a0 a1 a5 a7 a9 p0) (wX10 G ad a0 a1 a2 a3 a4 a5 a6 a7 a8 a9 a10 a11 a12 a13 a14 a15 a16 a17 a18 a19 a20 a21 a22 a23 a24 a25 a26 a27 a28 a29 a30 a31 a32 a33 a34 a35 a36 a37 a38) := by
  refine ci_start .int (by decide) rfl rfl (Nat.le_of_ble_eq_true rfl) ?_
  intro p e s m args below meth c A X
  refine s_perm (lv2 := [(0, .ref (ad 0)), (1, .int p0)]) [0, 1] rfl ?_
  refine s_iconst X (pc := 0) (v := 0) dX10_openSet_0 (by decide) ?_
  refine s_istore_n X (pc := 1) (i := 2) (lv2 := [(2, .int (0 : Int32)), (0, .ref (ad 0)), (1, .int p0)]) dX10_openSet_1 rfl (by decide) rfl ?_
  refine s_iconst X (pc := 2) (v := 0) dX10_openSet_2 (by decide) ?_
  refine s_istore_n X (pc := 3) (i := 3) (lv2 := [(3, .int (0 : Int32)), (2, .int (0 : Int32)), (0, .ref (ad 0)), (1, .int p0)]) dX10_openSet_3 rfl (by decide) rfl ?_
  refine s_perm (lv2 := [(0, .ref (ad 0)), (1, .int p0), (2, .int (0 : Int32)), (3, .int (0 : Int32))]) [2, 3, 1, 0] rfl ?_
  have L4 : ∀ (n4 k4 : Nat), k4 + n4 = 12 → Sm p l e (rmL 3) s m args below meth c G A 4 0 0 (Qci below G A args s (rX10_openSet a0 a1 a5 a7 a9 p0) (wX10 G ad a0 a1 a2 a3 a4 a5 a6 a7 a8 a9 a10 a11 a12 a13 a14 a15 a16 a17 a18 a19 a20 a21 a22 a23 a24 a25 a26 a27 a28 a29 a30 a31 a32 a33 a34 a35 a36 a37 a38)) 4 [(0, .ref (ad 0)), (1, .int p0), (2, .int (aX10_openSet_4 a0 a1 a5 a7 a9 p0 k4)), (3, .int (nI k4))] [] (wX10 G ad a0 a1 a2 a3 a4 a5 a6 a7 a8 a9 a10 a11 a12 a13 a14 a15 a16 a17 a18 a19 a20 a21 a22 a23 a24 a25 a26 a27 a28 a29 a30 a31 a32 a33 a34 a35 a36 a37 a38) := by
    intro n4
    induction n4 with
    | zero =>
      intro k4 hk4
      have hK4 : k4 = 12 := by omega
      rw [hK4]
      have tk4 : (nI 12).toInt = ((12 : Nat) : Int) := nI_toInt (by omega)
      have eN4 : ((12 : Int32)).toInt = ((12 : Nat) : Int) := rfl
      refine s_iload_n X (pc := 4) (x := nI 12) 3 dX10_openSet_4 rfl ?_
      refine s_bipush X (pc := 5) (v := 12) dX10_openSet_5 (by decide) ?_
      refine s_icmp_ge X (pc := 7) (tgt := 35) dX10_openSet_7 (by decide) (fun c7 => ?_) (fun c7 => ?_)
      ·
        refine s_iload_n X (pc := 35) (x := (aX10_openSet_4 a0 a1 a5 a7 a9 p0 12)) 2 dX10_openSet_35 rfl ?_
        exact s_iret X (pc := 36) (v := (aX10_openSet_4 a0 a1 a5 a7 a9 p0 12)) dX10_openSet_36 rfl rfl
      ·
        exact absurd ((t_le eN4 tk4).mpr (by omega)) c7
    | succ n4 ih4 =>
      intro k4 hk4
      have hlt4 : k4 < 12 := by omega
      have tk4 : (nI k4).toInt = ((k4 : Nat) : Int) := nI_toInt (by omega)
      have eN4 : ((12 : Int32)).toInt = ((12 : Nat) : Int) := rfl
      have kb0 : (0 : Int32) ≤ nI k4 := (t_le (x := 0) rfl tk4).mpr (by omega)
      have kb1 : nI k4 < (12 : Int32) := (t_lt (y := 12) tk4 rfl).mpr (by omega)
      refine s_iload_n X (pc := 4) (x := nI k4) 3 dX10_openSet_4 rfl ?_
      refine s_bipush X (pc := 5) (v := 12) dX10_openSet_5 (by decide) ?_
      refine s_icmp_ge X (pc := 7) (tgt := 35) dX10_openSet_7 (by decide) (fun c7 => ?_) (fun c7 => ?_)
      ·
        exact absurd ((t_le eN4 tk4).mp c7) (by omega)
      ·
        refine s_iload_n X (pc := 10) (x := (aX10_openSet_4 a0 a1 a5 a7 a9 p0 k4)) 2 dX10_openSet_10 rfl ?_
        refine s_aload_n X (pc := 11) (x := (ad 0)) 0 dX10_openSet_11 rfl ?_
        refine s_iload_n X (pc := 12) (x := p0) 1 dX10_openSet_12 rfl ?_
        refine s_iload_n X (pc := 13) (x := nI k4) 3 dX10_openSet_13 rfl ?_
        refine s_callVi0 X (pc := 14) (r := rX10_isOpen a0 a1 a5 a7 a9 p0 (nI k4)) (w := wX10 G ad a0 a1 a2 a3 a4 a5 a6 a7 a8 a9 a10 a11 a12 a13 a14 a15 a16 a17 a18 a19 a20 a21 a22 a23 a24 a25 a26 a27 a28 a29 a30 a31 a32 a33 a34 a35 a36 a37 a38) (n := 2) (st := [.int (aX10_openSet_4 a0 a1 a5 a7 a9 p0 k4)]) (As := [.int p0, .int (nI k4)]) (w2 := wX10 G ad a0 a1 a2 a3 a4 a5 a6 a7 a8 a9 a10 a11 a12 a13 a14 a15 a16 a17 a18 a19 a20 a21 a22 a23 a24 a25 a26 a27 a28 a29 a30 a31 a32 a33 a34 a35 a36 a37 a38) 2 (c_X10_isOpen l G ad a0 a1 a2 a3 a4 a5 a6 a7 a8 a9 a10 a11 a12 a13 a14 a15 a16 a17 a18 a19 a20 a21 a22 a23 a24 a25 a26 a27 a28 a29 a30 a31 a32 a33 a34 a35 a36 a37 a38 p0 (nI k4) hc tp t12 n0 n9 kb0 (by grind)) gX10_openSet_X10_isOpen rfl (by decide +kernel) ⟨Nat.le_of_ble_eq_true rfl, Nat.le_of_ble_eq_true rfl⟩ 0 rfl rfl rfl rfl (Nat.le_of_ble_eq_true rfl) (Nat.zero_le _) (Nat.zero_le _) dX10_openSet_14 ?_
        refine s_if_eq X (pc := 17) (tgt := 26) dX10_openSet_17 (by decide) (fun c17 => ?_) (fun c17 => ?_)
        ·
          refine s_iconst X (pc := 26) (v := 0) dX10_openSet_26 (by decide) ?_
          refine s_ior X (pc := 27) dX10_openSet_27 ?_
          refine s_istore_n X (pc := 28) (i := 2) (lv2 := [(2, .int ((aX10_openSet_4 a0 a1 a5 a7 a9 p0 k4) ||| (0 : Int32))), (0, .ref (ad 0)), (1, .int p0), (3, .int (nI k4))]) dX10_openSet_28 rfl (by decide) rfl ?_
          refine s_iinc X (pc := 29) (v := nI (k4 + 1)) (lv2 := [(3, .int (nI (k4 + 1))), (2, .int ((aX10_openSet_4 a0 a1 a5 a7 a9 p0 k4) ||| (0 : Int32))), (0, .ref (ad 0)), (1, .int p0)]) 3 dX10_openSet_29 rfl (nI_1 _) (by decide) rfl ?_
          refine s_goto X (pc := 32) (tgt := 4) dX10_openSet_32 (by decide) ?_
          refine s_perm (lv2 := [(0, .ref (ad 0)), (1, .int p0), (2, .int ((aX10_openSet_4 a0 a1 a5 a7 a9 p0 k4) ||| (0 : Int32))), (3, .int (nI (k4 + 1)))]) [2, 3, 1, 0] rfl ?_
          have hb4 : (aX10_openSet_4 a0 a1 a5 a7 a9 p0 (k4 + 1)) = (aX10_openSet_4 a0 a1 a5 a7 a9 p0 k4) ||| (0 : Int32) := by rw [aX10_openSet_4]; exact (if_pos c17)
          refine s_cast (lv2 := [(0, .ref (ad 0)), (1, .int p0), (2, .int (aX10_openSet_4 a0 a1 a5 a7 a9 p0 (k4 + 1))), (3, .int (nI (k4 + 1)))]) (w2 := wX10 G ad a0 a1 a2 a3 a4 a5 a6 a7 a8 a9 a10 a11 a12 a13 a14 a15 a16 a17 a18 a19 a20 a21 a22 a23 a24 a25 a26 a27 a28 a29 a30 a31 a32 a33 a34 a35 a36 a37 a38) (by first | (rw [hb4]; done) | rfl) (by first | (rw [hb4]; done) | rfl) ?_
          exact ih4 (k4 + 1) (by omega)
        ·
          refine s_iconst X (pc := 20) (v := 1) dX10_openSet_20 (by decide) ?_
          refine s_iload_n X (pc := 21) (x := nI k4) 3 dX10_openSet_21 rfl ?_
          refine s_ishl X (pc := 22) dX10_openSet_22 ?_
          refine s_goto X (pc := 23) (tgt := 27) dX10_openSet_23 (by decide) ?_
          refine s_ior X (pc := 27) dX10_openSet_27 ?_
          refine s_istore_n X (pc := 28) (i := 2) (lv2 := [(2, .int ((aX10_openSet_4 a0 a1 a5 a7 a9 p0 k4) ||| ((1 : Int32) <<< ((nI k4) &&& 31)))), (0, .ref (ad 0)), (1, .int p0), (3, .int (nI k4))]) dX10_openSet_28 rfl (by decide) rfl ?_
          refine s_iinc X (pc := 29) (v := nI (k4 + 1)) (lv2 := [(3, .int (nI (k4 + 1))), (2, .int ((aX10_openSet_4 a0 a1 a5 a7 a9 p0 k4) ||| ((1 : Int32) <<< ((nI k4) &&& 31)))), (0, .ref (ad 0)), (1, .int p0)]) 3 dX10_openSet_29 rfl (nI_1 _) (by decide) rfl ?_
          refine s_goto X (pc := 32) (tgt := 4) dX10_openSet_32 (by decide) ?_
          refine s_perm (lv2 := [(0, .ref (ad 0)), (1, .int p0), (2, .int ((aX10_openSet_4 a0 a1 a5 a7 a9 p0 k4) ||| ((1 : Int32) <<< ((nI k4) &&& 31)))), (3, .int (nI (k4 + 1)))]) [2, 3, 1, 0] rfl ?_
          have hb4 : (aX10_openSet_4 a0 a1 a5 a7 a9 p0 (k4 + 1)) = (aX10_openSet_4 a0 a1 a5 a7 a9 p0 k4) ||| ((1 : Int32) <<< ((nI k4) &&& 31)) := by rw [aX10_openSet_4]; exact (if_neg c17)
          refine s_cast (lv2 := [(0, .ref (ad 0)), (1, .int p0), (2, .int (aX10_openSet_4 a0 a1 a5 a7 a9 p0 (k4 + 1))), (3, .int (nI (k4 + 1)))]) (w2 := wX10 G ad a0 a1 a2 a3 a4 a5 a6 a7 a8 a9 a10 a11 a12 a13 a14 a15 a16 a17 a18 a19 a20 a21 a22 a23 a24 a25 a26 a27 a28 a29 a30 a31 a32 a33 a34 a35 a36 a37 a38) (by first | (rw [hb4]; done) | rfl) (by first | (rw [hb4]; done) | rfl) ?_
          exact ih4 (k4 + 1) (by omega)
  exact L4 12 0 (Nat.zero_add _)

theorem kX10_open_c190 : Jvm.Cond.constant RX10 190 (-1000000001) ∈ wsX10_open := List.mem_of_getElem? (i := 1) rfl
def rX10_open (a0 : Int32) (a1 : Nat → Int32) (a4 : Int32) (a5 a7 a9 : Nat → Int32) (p0 : Int32) : Int32 := if (rX10_isCase a4 p0) = 0 then (-1000000001 : Int32) else (rX10_openSet a0 a1 a5 a7 a9 p0)
set_option maxRecDepth 100000 in
set_option maxHeartbeats 4000000 in
theorem c_X10_open (l : Launch) (G : GT) (ad : Nat → Nat) (a0 : Int32) (a1 : Nat → Int32) (a2 : Int32) (a3 : Nat → Int32) (a4 : Int32) (a5 a6 a7 a8 a9 : Nat → Int32) (a10 : Int32) (a11 : Nat → Int32) (a12 a13 a14 a15 a16 a17 : Int32) (a18 : Nat → Int32) (a19 : Int32) (a20 : Nat → Int32) (a21 : Int32) (a22 a23 a24 a25 : Nat → Int32) (a26 : Int32) (a27 a28 a29 a30 : Nat → Int32) (a31 : Int32) (a32 a33 : Nat → Int32) (a34 : Int32) (a35 a36 a37 a38 : Nat → Int32) (p0 : Int32) (ca : 0 ≤ a4) (cb : a4 ≤ 5) (t12 : a0 ≤ 12) (n0 : 0 ≤ a9 22) (n9 : a9 22 ≤ 9060) (tc : 0 < a4 → 0 < a0) : Ci l G yX10_open wsX10_open (rmL 4) [.ref (ad 0), .int p0] (wX10 G ad a0 a1 a2 a3 a4 a5 a6 a7 a8 a9 a10 a11 a12 a13 a14 a15 a16 a17 a18 a19 a20 a21 a22 a23 a24 a25 a26 a27 a28 a29 a30 a31 a32 a33 a34 a35 a36 a37 a38) (rX10_open a0 a1 a4 a5 a7 a9 p0) (wX10 G ad a0 a1 a2 a3 a4 a5 a6 a7 a8 a9 a10 a11 a12 a13 a14 a15 a16 a17 a18 a19 a20 a21 a22 a23 a24 a25 a26 a27 a28 a29 a30 a31 a32 a33 a34 a35 a36 a37 a38) := by
  refine ci_start .int (by decide) rfl rfl (Nat.le_of_ble_eq_true rfl) ?_
  intro p e s m args below meth c A X
  refine s_perm (lv2 := [(0, .ref (ad 0)), (1, .int p0)]) [0, 1] rfl ?_
  refine s_aload_n X (pc := 0) (x := (ad 0)) 0 dX10_open_0 rfl ?_
  refine s_iload_n X (pc := 1) (x := p0) 1 dX10_open_1 rfl ?_
  refine s_callVi0 X (pc := 2) (r := rX10_isCase a4 p0) (w := wX10 G ad a0 a1 a2 a3 a4 a5 a6 a7 a8 a9 a10 a11 a12 a13 a14 a15 a16 a17 a18 a19 a20 a21 a22 a23 a24 a25 a26 a27 a28 a29 a30 a31 a32 a33 a34 a35 a36 a37 a38) (n := 1) (st := []) (As := [.int p0]) (w2 := wX10 G ad a0 a1 a2 a3 a4 a5 a6 a7 a8 a9 a10 a11 a12 a13 a14 a15 a16 a17 a18 a19 a20 a21 a22 a23 a24 a25 a26 a27 a28 a29 a30 a31 a32 a33 a34 a35 a36 a37 a38) 1 (c_X10_isCase l G ad a0 a1 a2 a3 a4 a5 a6 a7 a8 a9 a10 a11 a12 a13 a14 a15 a16 a17 a18 a19 a20 a21 a22 a23 a24 a25 a26 a27 a28 a29 a30 a31 a32 a33 a34 a35 a36 a37 a38 p0) gX10_open_X10_isCase rfl (by decide +kernel) ⟨Nat.le_of_ble_eq_true rfl, Nat.le_of_ble_eq_true rfl⟩ 0 rfl rfl rfl rfl (Nat.le_of_ble_eq_true rfl) (Nat.zero_le _) (Nat.zero_le _) dX10_open_2 ?_
  refine s_if_eq X (pc := 5) (tgt := 16) dX10_open_5 (by decide) (fun c5 => ?_) (fun c5 => ?_)
  ·
    refine s_ldc X (pc := 16) (v := -1000000001) kX10_open_c190 dX10_open_16 ?_
    exact s_iret X (pc := 18) (v := (-1000000001 : Int32)) dX10_open_18 (Eq.symm (show rX10_open a0 a1 a4 a5 a7 a9 p0 = (-1000000001 : Int32) from (by unfold rX10_open; exact (if_pos c5)))) rfl
  ·
    have q5 := isCase_in ca cb c5
    have v5 : vp_in p0 5 := vin (b := 5) rfl q5.1 q5.2.1
    refine s_aload_n X (pc := 8) (x := (ad 0)) 0 dX10_open_8 rfl ?_
    refine s_iload_n X (pc := 9) (x := p0) 1 dX10_open_9 rfl ?_
    refine s_callVi0 X (pc := 10) (r := rX10_openSet a0 a1 a5 a7 a9 p0) (w := wX10 G ad a0 a1 a2 a3 a4 a5 a6 a7 a8 a9 a10 a11 a12 a13 a14 a15 a16 a17 a18 a19 a20 a21 a22 a23 a24 a25 a26 a27 a28 a29 a30 a31 a32 a33 a34 a35 a36 a37 a38) (n := 1) (st := []) (As := [.int p0]) (w2 := wX10 G ad a0 a1 a2 a3 a4 a5 a6 a7 a8 a9 a10 a11 a12 a13 a14 a15 a16 a17 a18 a19 a20 a21 a22 a23 a24 a25 a26 a27 a28 a29 a30 a31 a32 a33 a34 a35 a36 a37 a38) 3 (c_X10_openSet l G ad a0 a1 a2 a3 a4 a5 a6 a7 a8 a9 a10 a11 a12 a13 a14 a15 a16 a17 a18 a19 a20 a21 a22 a23 a24 a25 a26 a27 a28 a29 a30 a31 a32 a33 a34 a35 a36 a37 a38 p0 v5 (tc (by grind)) t12 n0 n9) gX10_open_X10_openSet rfl (by decide +kernel) ⟨Nat.le_of_ble_eq_true rfl, Nat.le_of_ble_eq_true rfl⟩ 0 rfl rfl rfl rfl (Nat.le_of_ble_eq_true rfl) (Nat.zero_le _) (Nat.zero_le _) dX10_open_10 ?_
    refine s_goto X (pc := 13) (tgt := 18) dX10_open_13 (by decide) ?_
    exact s_iret X (pc := 18) (v := rX10_openSet a0 a1 a5 a7 a9 p0) dX10_open_18 (Eq.symm (show rX10_open a0 a1 a4 a5 a7 a9 p0 = rX10_openSet a0 a1 a5 a7 a9 p0 from (by unfold rX10_open; exact (if_neg c5)))) rfl

theorem iX10_waysToBegin_X10 : ∀ z ∈ wsX100, z ∈ wsX10_waysToBegin := fun z h => List.mem_cons_of_mem _ (List.mem_append_right _ h)
theorem kX10_waysToBegin_94 : Cond.fieldLink RX10 94 "BathingCourtModel" (TX10 4).2.1 (TX10 4).2.2.1 ∈ wsX10_waysToBegin := List.mem_of_getElem? (i := 1) rfl
theorem kX10_waysToBegin_28 : Cond.fieldLink RX10 28 "BathingCourtModel" (TX10 9).2.1 (TX10 9).2.2.1 ∈ wsX10_waysToBegin := List.mem_of_getElem? (i := 2) rfl
def aX10_waysToBegin_4 (a9 : Nat → Int32) : Nat → Int32
  | 0 => (1 : Int32)
  | k4 + 1 => if (a9 ((12 : Int32) + (nI k4)).toNatClampNeg) = 0 then ((aX10_waysToBegin_4 a9 k4) * (12 : Int32)) else ((aX10_waysToBegin_4 a9 k4) * (1 : Int32))
def rX10_waysToBegin (a4 : Int32) (a9 : Nat → Int32) : Int32 := (aX10_waysToBegin_4 a9 a4.toNatClampNeg)
set_option maxRecDepth 100000 in
set_option maxHeartbeats 4000000 in
theorem c_X10_waysToBegin (l : Launch) (G : GT) (ad : Nat → Nat) (a0 : Int32) (a1 : Nat → Int32) (a2 : Int32) (a3 : Nat → Int32) (a4 : Int32) (a5 a6 a7 a8 a9 : Nat → Int32) (a10 : Int32) (a11 : Nat → Int32) (a12 a13 a14 a15 a16 a17 : Int32) (a18 : Nat → Int32) (a19 : Int32) (a20 : Nat → Int32) (a21 : Int32) (a22 a23 a24 a25 : Nat → Int32) (a26 : Int32) (a27 a28 a29 a30 : Nat → Int32) (a31 : Int32) (a32 a33 : Nat → Int32) (a34 : Int32) (a35 a36 a37 a38 : Nat → Int32) (ca : 0 ≤ a4) (cb : a4 ≤ 5) : Ci l G yX10_waysToBegin wsX10_waysToBegin (rmL 0) [.ref (ad 0)] (wX10 G ad a0 a1 a2 a3 a4 a5 a6 a7 a8 a9 a10 a11 a12 a13 a14 a15 a16 a17 a18 a19 a20 a21 a22 a23 a24 a25 a26 a27 a28 a29 a30 a31 a32 a33 a34 a35 a36 a37 a38) (rX10_waysToBegin a4 a9) (wX10 G ad a0 a1 a2 a3 a4 a5 a6 a7 a8 a9 a10 a11 a12 a13 a14 a15 a16 a17 a18 a19 a20 a21 a22 a23 a24 a25 a26 a27 a28 a29 a30 a31 a32 a33 a34 a35 a36 a37 a38) := by
  refine ci_start .int (by decide) rfl rfl (Nat.le_of_ble_eq_true rfl) ?_
  intro p e s m args below meth c A X
  have e4 := clampInt ca
  have hN4 := clampLe (n := 5) (b := 5) rfl ca cb
  refine s_perm (lv2 := [(0, .ref (ad 0))]) [0] rfl ?_
  refine s_iconst X (pc := 0) (v := 1) dX10_waysToBegin_0 (by decide) ?_
  refine s_istore_n X (pc := 1) (i := 1) (lv2 := [(1, .int (1 : Int32)), (0, .ref (ad 0))]) dX10_waysToBegin_1 rfl (by decide) rfl ?_
  refine s_iconst X (pc := 2) (v := 0) dX10_waysToBegin_2 (by decide) ?_
  refine s_istore_n X (pc := 3) (i := 2) (lv2 := [(2, .int (0 : Int32)), (1, .int (1 : Int32)), (0, .ref (ad 0))]) dX10_waysToBegin_3 rfl (by decide) rfl ?_
  refine s_perm (lv2 := [(0, .ref (ad 0)), (1, .int (1 : Int32)), (2, .int (0 : Int32))]) [2, 1, 0] rfl ?_
  have L4 : ∀ (n4 k4 : Nat), k4 + n4 = a4.toNatClampNeg → Sm p l e (rmL 0) s m args below meth c G A 3 0 0 (Qci below G A args s (rX10_waysToBegin a4 a9) (wX10 G ad a0 a1 a2 a3 a4 a5 a6 a7 a8 a9 a10 a11 a12 a13 a14 a15 a16 a17 a18 a19 a20 a21 a22 a23 a24 a25 a26 a27 a28 a29 a30 a31 a32 a33 a34 a35 a36 a37 a38)) 4 [(0, .ref (ad 0)), (1, .int (aX10_waysToBegin_4 a9 k4)), (2, .int (nI k4))] [] (wX10 G ad a0 a1 a2 a3 a4 a5 a6 a7 a8 a9 a10 a11 a12 a13 a14 a15 a16 a17 a18 a19 a20 a21 a22 a23 a24 a25 a26 a27 a28 a29 a30 a31 a32 a33 a34 a35 a36 a37 a38) := by
    intro n4
    induction n4 with
    | zero =>
      intro k4 hk4
      have hK4 : k4 = a4.toNatClampNeg := by omega
      rw [hK4]
      have tk4 : (nI a4.toNatClampNeg).toInt = ((a4.toNatClampNeg : Nat) : Int) := nI_toInt (by omega)
      have eN4 : (a4).toInt = ((a4.toNatClampNeg : Nat) : Int) := e4
      refine s_iload_n X (pc := 4) (x := nI a4.toNatClampNeg) 2 dX10_waysToBegin_4 rfl ?_
      refine s_aload_n X (pc := 5) (x := (ad 0)) 0 dX10_waysToBegin_5 rfl ?_
      refine s_get X (pc := 6) (v := .int a4) iX10_waysToBegin_X10 0 rfl rfl 4 (by decide) kX10_waysToBegin_94 rfl rfl dX10_waysToBegin_6 ?_
      refine s_icmp_ge X (pc := 9) (tgt := 39) dX10_waysToBegin_9 (by decide) (fun c9 => ?_) (fun c9 => ?_)
      ·
        refine s_iload_n X (pc := 39) (x := (aX10_waysToBegin_4 a9 a4.toNatClampNeg)) 1 dX10_waysToBegin_39 rfl ?_
        exact s_iret X (pc := 40) (v := (aX10_waysToBegin_4 a9 a4.toNatClampNeg)) dX10_waysToBegin_40 rfl rfl
      ·
        exact absurd ((t_le eN4 tk4).mpr (by omega)) c9
    | succ n4 ih4 =>
      intro k4 hk4
      have hlt4 : k4 < a4.toNatClampNeg := by omega
      have tk4 : (nI k4).toInt = ((k4 : Nat) : Int) := nI_toInt (by omega)
      have eN4 : (a4).toInt = ((a4.toNatClampNeg : Nat) : Int) := e4
      have kb0 : (0 : Int32) ≤ nI k4 := (t_le (x := 0) rfl tk4).mpr (by omega)
      have kb1 : nI k4 < (5 : Int32) := (t_lt (y := 5) tk4 rfl).mpr (by omega)
      refine s_iload_n X (pc := 4) (x := nI k4) 2 dX10_waysToBegin_4 rfl ?_
      refine s_aload_n X (pc := 5) (x := (ad 0)) 0 dX10_waysToBegin_5 rfl ?_
      refine s_get X (pc := 6) (v := .int a4) iX10_waysToBegin_X10 0 rfl rfl 4 (by decide) kX10_waysToBegin_94 rfl rfl dX10_waysToBegin_6 ?_
      refine s_icmp_ge X (pc := 9) (tgt := 39) dX10_waysToBegin_9 (by decide) (fun c9 => ?_) (fun c9 => ?_)
      ·
        exact absurd ((t_le eN4 tk4).mp c9) (by omega)
      ·
        refine s_iload_n X (pc := 12) (x := (aX10_waysToBegin_4 a9 k4)) 1 dX10_waysToBegin_12 rfl ?_
        refine s_aload_n X (pc := 13) (x := (ad 0)) 0 dX10_waysToBegin_13 rfl ?_
        refine s_get X (pc := 14) (v := .ref (ad 10)) iX10_waysToBegin_X10 0 rfl rfl 9 (by decide) kX10_waysToBegin_28 rfl rfl dX10_waysToBegin_14 ?_
        refine s_bipush X (pc := 17) (v := 12) dX10_waysToBegin_17 (by decide) ?_
        refine s_iload_n X (pc := 19) (x := nI k4) 2 dX10_waysToBegin_19 rfl ?_
        refine s_iadd X (pc := 20) dX10_waysToBegin_20 ?_
        refine s_iald X (pc := 21) (n := 23) (f := a9) 7 rfl (by first | with_reducible assumption | exact vin (b := 23) rfl (by grind) (by grind)) dX10_waysToBegin_21 ?_
        refine s_if_ne X (pc := 22) (tgt := 30) dX10_waysToBegin_22 (by decide) (fun c22 => ?_) (fun c22 => ?_)
        ·
          refine s_iconst X (pc := 30) (v := 1) dX10_waysToBegin_30 (by decide) ?_
          refine s_imul X (pc := 31) dX10_waysToBegin_31 ?_
          refine s_istore_n X (pc := 32) (i := 1) (lv2 := [(1, .int ((aX10_waysToBegin_4 a9 k4) * (1 : Int32))), (0, .ref (ad 0)), (2, .int (nI k4))]) dX10_waysToBegin_32 rfl (by decide) rfl ?_
          refine s_iinc X (pc := 33) (v := nI (k4 + 1)) (lv2 := [(2, .int (nI (k4 + 1))), (1, .int ((aX10_waysToBegin_4 a9 k4) * (1 : Int32))), (0, .ref (ad 0))]) 2 dX10_waysToBegin_33 rfl (nI_1 _) (by decide) rfl ?_
          refine s_goto X (pc := 36) (tgt := 4) dX10_waysToBegin_36 (by decide) ?_
          refine s_perm (lv2 := [(0, .ref (ad 0)), (1, .int ((aX10_waysToBegin_4 a9 k4) * (1 : Int32))), (2, .int (nI (k4 + 1)))]) [2, 1, 0] rfl ?_
          have hb4 : (aX10_waysToBegin_4 a9 (k4 + 1)) = (aX10_waysToBegin_4 a9 k4) * (1 : Int32) := by rw [aX10_waysToBegin_4]; exact (if_neg c22)
          refine s_cast (lv2 := [(0, .ref (ad 0)), (1, .int (aX10_waysToBegin_4 a9 (k4 + 1))), (2, .int (nI (k4 + 1)))]) (w2 := wX10 G ad a0 a1 a2 a3 a4 a5 a6 a7 a8 a9 a10 a11 a12 a13 a14 a15 a16 a17 a18 a19 a20 a21 a22 a23 a24 a25 a26 a27 a28 a29 a30 a31 a32 a33 a34 a35 a36 a37 a38) (by first | (rw [hb4]; done) | rfl) (by first | (rw [hb4]; done) | rfl) ?_
          exact ih4 (k4 + 1) (by omega)
        ·
          refine s_bipush X (pc := 25) (v := 12) dX10_waysToBegin_25 (by decide) ?_
          refine s_goto X (pc := 27) (tgt := 31) dX10_waysToBegin_27 (by decide) ?_
          refine s_imul X (pc := 31) dX10_waysToBegin_31 ?_
          refine s_istore_n X (pc := 32) (i := 1) (lv2 := [(1, .int ((aX10_waysToBegin_4 a9 k4) * (12 : Int32))), (0, .ref (ad 0)), (2, .int (nI k4))]) dX10_waysToBegin_32 rfl (by decide) rfl ?_
          refine s_iinc X (pc := 33) (v := nI (k4 + 1)) (lv2 := [(2, .int (nI (k4 + 1))), (1, .int ((aX10_waysToBegin_4 a9 k4) * (12 : Int32))), (0, .ref (ad 0))]) 2 dX10_waysToBegin_33 rfl (nI_1 _) (by decide) rfl ?_
          refine s_goto X (pc := 36) (tgt := 4) dX10_waysToBegin_36 (by decide) ?_
          refine s_perm (lv2 := [(0, .ref (ad 0)), (1, .int ((aX10_waysToBegin_4 a9 k4) * (12 : Int32))), (2, .int (nI (k4 + 1)))]) [2, 1, 0] rfl ?_
          have hb4 : (aX10_waysToBegin_4 a9 (k4 + 1)) = (aX10_waysToBegin_4 a9 k4) * (12 : Int32) := by rw [aX10_waysToBegin_4]; exact (if_pos c22)
          refine s_cast (lv2 := [(0, .ref (ad 0)), (1, .int (aX10_waysToBegin_4 a9 (k4 + 1))), (2, .int (nI (k4 + 1)))]) (w2 := wX10 G ad a0 a1 a2 a3 a4 a5 a6 a7 a8 a9 a10 a11 a12 a13 a14 a15 a16 a17 a18 a19 a20 a21 a22 a23 a24 a25 a26 a27 a28 a29 a30 a31 a32 a33 a34 a35 a36 a37 a38) (by first | (rw [hb4]; done) | rfl) (by first | (rw [hb4]; done) | rfl) ?_
          exact ih4 (k4 + 1) (by omega)
  exact L4 a4.toNatClampNeg 0 (Nat.zero_add _)
