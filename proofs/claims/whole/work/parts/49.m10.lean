theorem iX10_canBring_X10 : ∀ z ∈ wsX100, z ∈ wsX10_canBring := fun z h => List.mem_cons_of_mem _ (List.mem_append_right _ h)
theorem kX10_canBring_28 : Cond.fieldLink RX10 28 "BathingCourtModel" (TX10 9).2.1 (TX10 9).2.2.1 ∈ wsX10_canBring := List.mem_of_getElem? (i := 1) rfl
def rX10_canBring (a9 : Nat → Int32) (p0 p1 : Int32) : Int32 := if (a9 ((12 : Int32) + p0).toNatClampNeg) = 0 then (if 0 ≤ (a9 ((4 : Int32) + p1).toNatClampNeg) then (0 : Int32) else (if (a9 p1.toNatClampNeg) = 0 then (1 : Int32) else (0 : Int32))) else (0 : Int32)
set_option maxRecDepth 100000 in
set_option maxHeartbeats 4000000 in
theorem c_X10_canBring (l : Launch) (G : GT) (ad : Nat → Nat) (a0 : Int32) (a1 : Nat → Int32) (a2 : Int32) (a3 : Nat → Int32) (a4 : Int32) (a5 a6 a7 a8 a9 : Nat → Int32) (a10 : Int32) (a11 : Nat → Int32) (a12 a13 a14 a15 a16 a17 : Int32) (a18 : Nat → Int32) (a19 : Int32) (a20 : Nat → Int32) (a21 : Int32) (a22 a23 a24 a25 : Nat → Int32) (a26 : Int32) (a27 a28 a29 a30 : Nat → Int32) (a31 : Int32) (a32 a33 : Nat → Int32) (a34 : Int32) (a35 a36 a37 a38 : Nat → Int32) (p0 p1 : Int32) (x0 : 0 ≤ p0) (x1 : p0 < 5) (y0 : 0 ≤ p1) (y1 : p1 < 4) : Ci l G yX10_canBring wsX10_canBring (rmL 0) [.ref (ad 0), .int p0, .int p1] (wX10 G ad a0 a1 a2 a3 a4 a5 a6 a7 a8 a9 a10 a11 a12 a13 a14 a15 a16 a17 a18 a19 a20 a21 a22 a23 a24 a25 a26 a27 a28 a29 a30 a31 a32 a33 a34 a35 a36 a37 a38) (rX10_canBring a9 p0 p1) (wX10 G ad a0 a1 a2 a3 a4 a5 a6 a7 a8 a9 a10 a11 a12 a13 a14 a15 a16 a17 a18 a19 a20 a21 a22 a23 a24 a25 a26 a27 a28 a29 a30 a31 a32 a33 a34 a35 a36 a37 a38) := by
  refine ci_start .boolean (by decide) rfl rfl (Nat.le_of_ble_eq_true rfl) ?_
  intro p e s m args below meth c A X
  refine s_perm (lv2 := [(0, .ref (ad 0)), (1, .int p0), (2, .int p1)]) [0, 1, 2] rfl ?_
  refine s_aload_n X (pc := 0) (x := (ad 0)) 0 dX10_canBring_0 rfl ?_
  refine s_get X (pc := 1) (v := .ref (ad 10)) iX10_canBring_X10 0 rfl rfl 9 (by decide) kX10_canBring_28 rfl rfl dX10_canBring_1 ?_
  refine s_bipush X (pc := 4) (v := 12) dX10_canBring_4 (by decide) ?_
  refine s_iload_n X (pc := 6) (x := p0) 1 dX10_canBring_6 rfl ?_
  refine s_iadd X (pc := 7) dX10_canBring_7 ?_
  refine s_iald X (pc := 8) (n := 23) (f := a9) 7 rfl (by first | with_reducible assumption | exact vin (b := 23) rfl (by grind) (by grind)) dX10_canBring_8 ?_
  refine s_if_ne X (pc := 9) (tgt := 36) dX10_canBring_9 (by decide) (fun c9 => ?_) (fun c9 => ?_)
  ·
    refine s_iconst X (pc := 36) (v := 0) dX10_canBring_36 (by decide) ?_
    exact s_zret X (pc := 37) (v := (0 : Int32)) (Or.inl rfl) dX10_canBring_37 (Eq.symm (show rX10_canBring a9 p0 p1 = (0 : Int32) from (by unfold rX10_canBring; exact (if_neg c9)))) rfl
  ·
    refine s_aload_n X (pc := 12) (x := (ad 0)) 0 dX10_canBring_12 rfl ?_
    refine s_get X (pc := 13) (v := .ref (ad 10)) iX10_canBring_X10 0 rfl rfl 9 (by decide) kX10_canBring_28 rfl rfl dX10_canBring_13 ?_
    refine s_iconst X (pc := 16) (v := 4) dX10_canBring_16 (by decide) ?_
    refine s_iload_n X (pc := 17) (x := p1) 2 dX10_canBring_17 rfl ?_
    refine s_iadd X (pc := 18) dX10_canBring_18 ?_
    refine s_iald X (pc := 19) (n := 23) (f := a9) 7 rfl (by first | with_reducible assumption | exact vin (b := 23) rfl (by grind) (by grind)) dX10_canBring_19 ?_
    refine s_if_ge X (pc := 20) (tgt := 36) dX10_canBring_20 (by decide) (fun c20 => ?_) (fun c20 => ?_)
    ·
      refine s_iconst X (pc := 36) (v := 0) dX10_canBring_36 (by decide) ?_
      exact s_zret X (pc := 37) (v := (0 : Int32)) (Or.inl rfl) dX10_canBring_37 (Eq.symm (show rX10_canBring a9 p0 p1 = (0 : Int32) from (by unfold rX10_canBring; exact ((if_pos c9).trans (if_pos c20))))) rfl
    ·
      refine s_aload_n X (pc := 23) (x := (ad 0)) 0 dX10_canBring_23 rfl ?_
      refine s_get X (pc := 24) (v := .ref (ad 10)) iX10_canBring_X10 0 rfl rfl 9 (by decide) kX10_canBring_28 rfl rfl dX10_canBring_24 ?_
      refine s_iload_n X (pc := 27) (x := p1) 2 dX10_canBring_27 rfl ?_
      refine s_iald X (pc := 28) (n := 23) (f := a9) 7 rfl (by first | with_reducible assumption | exact vin (b := 23) rfl (by grind) (by grind)) dX10_canBring_28 ?_
      refine s_if_ne X (pc := 29) (tgt := 36) dX10_canBring_29 (by decide) (fun c29 => ?_) (fun c29 => ?_)
      ·
        refine s_iconst X (pc := 36) (v := 0) dX10_canBring_36 (by decide) ?_
        exact s_zret X (pc := 37) (v := (0 : Int32)) (Or.inl rfl) dX10_canBring_37 (Eq.symm (show rX10_canBring a9 p0 p1 = (0 : Int32) from (by unfold rX10_canBring; exact ((if_pos c9).trans ((if_neg c20).trans (if_neg c29)))))) rfl
      ·
        refine s_iconst X (pc := 32) (v := 1) dX10_canBring_32 (by decide) ?_
        refine s_goto X (pc := 33) (tgt := 37) dX10_canBring_33 (by decide) ?_
        exact s_zret X (pc := 37) (v := (1 : Int32)) (Or.inr rfl) dX10_canBring_37 (Eq.symm (show rX10_canBring a9 p0 p1 = (1 : Int32) from (by unfold rX10_canBring; exact ((if_pos c9).trans ((if_neg c20).trans (if_pos c29)))))) rfl
theorem bX10_canBring (a9 : Nat → Int32) (p0 p1 : Int32) : rX10_canBring a9 p0 p1 = 0 ∨ rX10_canBring a9 p0 p1 = 1 := by
  unfold rX10_canBring
  repeat' split
  all_goals first | exact Or.inl rfl | exact Or.inr rfl

theorem iX10_bringNow_X10 : ∀ z ∈ wsX100, z ∈ wsX10_bringNow := fun z h => List.mem_cons_of_mem _ (List.mem_append_right _ h)
theorem kX10_bringNow_28 : Cond.fieldLink RX10 28 "BathingCourtModel" (TX10 9).2.1 (TX10 9).2.2.1 ∈ wsX10_bringNow := List.mem_of_getElem? (i := 1) rfl
def sX10_bringNow_9 (a9 : Nat → Int32) (p0 p1 : Int32) : Nat → Int32 := upd (upd a9 ((12 : Int32) + p0).toNatClampNeg (1 : Int32)) ((4 : Int32) + p1).toNatClampNeg p0
set_option maxRecDepth 100000 in
set_option maxHeartbeats 4000000 in
theorem c_X10_bringNow (l : Launch) (G : GT) (ad : Nat → Nat) (a0 : Int32) (a1 : Nat → Int32) (a2 : Int32) (a3 : Nat → Int32) (a4 : Int32) (a5 a6 a7 a8 a9 : Nat → Int32) (a10 : Int32) (a11 : Nat → Int32) (a12 a13 a14 a15 a16 a17 : Int32) (a18 : Nat → Int32) (a19 : Int32) (a20 : Nat → Int32) (a21 : Int32) (a22 a23 a24 a25 : Nat → Int32) (a26 : Int32) (a27 a28 a29 a30 : Nat → Int32) (a31 : Int32) (a32 a33 : Nat → Int32) (a34 : Int32) (a35 a36 a37 a38 : Nat → Int32) (p0 p1 : Int32) (x0 : 0 ≤ p0) (x1 : p0 < 5) (y0 : 0 ≤ p1) (y1 : p1 < 4) : Cv l G yX10_bringNow wsX10_bringNow (rmL 0) [.ref (ad 0), .int p0, .int p1] (wX10 G ad a0 a1 a2 a3 a4 a5 a6 a7 a8 a9 a10 a11 a12 a13 a14 a15 a16 a17 a18 a19 a20 a21 a22 a23 a24 a25 a26 a27 a28 a29 a30 a31 a32 a33 a34 a35 a36 a37 a38) (wX10 G ad a0 a1 a2 a3 a4 a5 a6 a7 a8 (sX10_bringNow_9 a9 p0 p1) a10 a11 a12 a13 a14 a15 a16 a17 a18 a19 a20 a21 a22 a23 a24 a25 a26 a27 a28 a29 a30 a31 a32 a33 a34 a35 a36 a37 a38) := by
  refine cv_start (by decide) rfl rfl (Nat.le_of_ble_eq_true rfl) ?_
  intro p e s m args below meth c A X
  refine s_perm (lv2 := [(0, .ref (ad 0)), (1, .int p0), (2, .int p1)]) [0, 1, 2] rfl ?_
  refine s_aload_n X (pc := 0) (x := (ad 0)) 0 dX10_bringNow_0 rfl ?_
  refine s_get X (pc := 1) (v := .ref (ad 10)) iX10_bringNow_X10 0 rfl rfl 9 (by decide) kX10_bringNow_28 rfl rfl dX10_bringNow_1 ?_
  refine s_bipush X (pc := 4) (v := 12) dX10_bringNow_4 (by decide) ?_
  refine s_iload_n X (pc := 6) (x := p0) 1 dX10_bringNow_6 rfl ?_
  refine s_iadd X (pc := 7) dX10_bringNow_7 ?_
  refine s_iconst X (pc := 8) (v := 1) dX10_bringNow_8 (by decide) ?_
  refine s_iast X (pc := 9) (n := 23) (f := a9) (w2 := wX10 G ad a0 a1 a2 a3 a4 a5 a6 a7 a8 (upd a9 ((12 : Int32) + p0).toNatClampNeg (1 : Int32)) a10 a11 a12 a13 a14 a15 a16 a17 a18 a19 a20 a21 a22 a23 a24 a25 a26 a27 a28 a29 a30 a31 a32 a33 a34 a35 a36 a37 a38) 7 rfl (by first | with_reducible assumption | exact vin (b := 23) rfl (by grind) (by grind)) rfl dX10_bringNow_9 ?_
  refine s_aload_n X (pc := 10) (x := (ad 0)) 0 dX10_bringNow_10 rfl ?_
  refine s_get X (pc := 11) (v := .ref (ad 10)) iX10_bringNow_X10 0 rfl rfl 9 (by decide) kX10_bringNow_28 rfl rfl dX10_bringNow_11 ?_
  refine s_iconst X (pc := 14) (v := 4) dX10_bringNow_14 (by decide) ?_
  refine s_iload_n X (pc := 15) (x := p1) 2 dX10_bringNow_15 rfl ?_
  refine s_iadd X (pc := 16) dX10_bringNow_16 ?_
  refine s_iload_n X (pc := 17) (x := p0) 1 dX10_bringNow_17 rfl ?_
  refine s_iast X (pc := 18) (n := 23) (f := upd a9 ((12 : Int32) + p0).toNatClampNeg (1 : Int32)) (w2 := wX10 G ad a0 a1 a2 a3 a4 a5 a6 a7 a8 (upd (upd a9 ((12 : Int32) + p0).toNatClampNeg (1 : Int32)) ((4 : Int32) + p1).toNatClampNeg p0) a10 a11 a12 a13 a14 a15 a16 a17 a18 a19 a20 a21 a22 a23 a24 a25 a26 a27 a28 a29 a30 a31 a32 a33 a34 a35 a36 a37 a38) 7 rfl (by first | with_reducible assumption | exact vin (b := 23) rfl (by grind) (by grind)) rfl dX10_bringNow_18 ?_
  exact s_vret X (pc := 19) dX10_bringNow_19 (by rw [show sX10_bringNow_9 a9 p0 p1 = upd (upd a9 ((12 : Int32) + p0).toNatClampNeg (1 : Int32)) ((4 : Int32) + p1).toNatClampNeg p0 from rfl])

theorem kX10_bring_c190 : Jvm.Cond.constant RX10 190 (-1000000001) ∈ wsX10_bring := List.mem_of_getElem? (i := 1) rfl
theorem kX10_bring_c183 : Jvm.Cond.constant RX10 183 (-1000000003) ∈ wsX10_bring := List.mem_of_getElem? (i := 2) rfl
def rX10_bring (a2 a4 : Int32) (a9 : Nat → Int32) (p0 p1 : Int32) : Int32 := if (rX10_isCase a4 p0) = 0 then (-1000000001 : Int32) else (if (rX10_isHut a2 p1) = 0 then (-1000000001 : Int32) else (if (rX10_canBring a9 p0 p1) = 0 then (-1000000003 : Int32) else (rX10_allThat a4 (sX10_bringNow_9 a9 p0 p1) (0 : Int32))))
def sX10_bring_9 (a2 a4 : Int32) (a9 : Nat → Int32) (p0 p1 : Int32) : Nat → Int32 := if (rX10_isCase a4 p0) = 0 then a9 else (if (rX10_isHut a2 p1) = 0 then a9 else (if (rX10_canBring a9 p0 p1) = 0 then a9 else (sX10_bringNow_9 a9 p0 p1)))
def sX10_bring_26 (a2 a4 : Int32) (a9 : Nat → Int32) (a26 p0 p1 : Int32) : Int32 := if (rX10_isCase a4 p0) = 0 then a26 else (if (rX10_isHut a2 p1) = 0 then a26 else (if (rX10_canBring a9 p0 p1) = 0 then a26 else (sX10_remember_26 a26)))
def sX10_bring_27 (a2 a4 : Int32) (a9 : Nat → Int32) (a26 : Int32) (a27 : Nat → Int32) (p0 p1 : Int32) : Nat → Int32 := if (rX10_isCase a4 p0) = 0 then a27 else (if (rX10_isHut a2 p1) = 0 then a27 else (if (rX10_canBring a9 p0 p1) = 0 then a27 else (sX10_remember_27 a9 a26 a27)))
set_option maxRecDepth 100000 in
set_option maxHeartbeats 4000000 in
theorem c_X10_bring (l : Launch) (G : GT) (ad : Nat → Nat) (a0 : Int32) (a1 : Nat → Int32) (a2 : Int32) (a3 : Nat → Int32) (a4 : Int32) (a5 a6 a7 a8 a9 : Nat → Int32) (a10 : Int32) (a11 : Nat → Int32) (a12 a13 a14 a15 a16 a17 : Int32) (a18 : Nat → Int32) (a19 : Int32) (a20 : Nat → Int32) (a21 : Int32) (a22 a23 a24 a25 : Nat → Int32) (a26 : Int32) (a27 a28 a29 a30 : Nat → Int32) (a31 : Int32) (a32 a33 : Nat → Int32) (a34 : Int32) (a35 a36 a37 a38 : Nat → Int32) (p0 p1 : Int32) (ca : 0 ≤ a4) (cb : a4 ≤ 5) (h0 : 0 ≤ a2) (h4 : a2 ≤ 4) (u0 : 0 ≤ a26) (u20 : a26 ≤ 20) : Ci l G yX10_bring wsX10_bring (rmL 2) [.ref (ad 0), .int p0, .int p1] (wX10 G ad a0 a1 a2 a3 a4 a5 a6 a7 a8 a9 a10 a11 a12 a13 a14 a15 a16 a17 a18 a19 a20 a21 a22 a23 a24 a25 a26 a27 a28 a29 a30 a31 a32 a33 a34 a35 a36 a37 a38) (rX10_bring a2 a4 a9 p0 p1) (wX10 G ad a0 a1 a2 a3 a4 a5 a6 a7 a8 (sX10_bring_9 a2 a4 a9 p0 p1) a10 a11 a12 a13 a14 a15 a16 a17 a18 a19 a20 a21 a22 a23 a24 a25 (sX10_bring_26 a2 a4 a9 a26 p0 p1) (sX10_bring_27 a2 a4 a9 a26 a27 p0 p1) a28 a29 a30 a31 a32 a33 a34 a35 a36 a37 a38) := by
  refine ci_start .int (by decide) rfl rfl (Nat.le_of_ble_eq_true rfl) ?_
  intro p e s m args below meth c A X
  refine s_perm (lv2 := [(0, .ref (ad 0)), (1, .int p0), (2, .int p1)]) [0, 1, 2] rfl ?_
  refine s_aload_n X (pc := 0) (x := (ad 0)) 0 dX10_bring_0 rfl ?_
  refine s_iload_n X (pc := 1) (x := p0) 1 dX10_bring_1 rfl ?_
  refine s_callVi0 X (pc := 2) (r := rX10_isCase a4 p0) (w := wX10 G ad a0 a1 a2 a3 a4 a5 a6 a7 a8 a9 a10 a11 a12 a13 a14 a15 a16 a17 a18 a19 a20 a21 a22 a23 a24 a25 a26 a27 a28 a29 a30 a31 a32 a33 a34 a35 a36 a37 a38) (n := 1) (st := []) (As := [.int p0]) (w2 := wX10 G ad a0 a1 a2 a3 a4 a5 a6 a7 a8 a9 a10 a11 a12 a13 a14 a15 a16 a17 a18 a19 a20 a21 a22 a23 a24 a25 a26 a27 a28 a29 a30 a31 a32 a33 a34 a35 a36 a37 a38) 1 (c_X10_isCase l G ad a0 a1 a2 a3 a4 a5 a6 a7 a8 a9 a10 a11 a12 a13 a14 a15 a16 a17 a18 a19 a20 a21 a22 a23 a24 a25 a26 a27 a28 a29 a30 a31 a32 a33 a34 a35 a36 a37 a38 p0) gX10_bring_X10_isCase rfl (by decide +kernel) ⟨Nat.le_of_ble_eq_true rfl, Nat.le_of_ble_eq_true rfl⟩ 0 rfl rfl rfl rfl (Nat.le_of_ble_eq_true rfl) (Nat.zero_le _) (Nat.zero_le _) dX10_bring_2 ?_
  refine s_if_eq X (pc := 5) (tgt := 16) dX10_bring_5 (by decide) (fun c5 => ?_) (fun c5 => ?_)
  ·
    refine s_ldc X (pc := 16) (v := -1000000001) kX10_bring_c190 dX10_bring_16 ?_
    exact s_iret X (pc := 18) (v := (-1000000001 : Int32)) dX10_bring_18 (Eq.symm (show rX10_bring a2 a4 a9 p0 p1 = (-1000000001 : Int32) from (by unfold rX10_bring; exact (if_pos c5)))) (by rw [show sX10_bring_9 a2 a4 a9 p0 p1 = a9 from (by unfold sX10_bring_9; exact (if_pos c5)), show sX10_bring_26 a2 a4 a9 a26 p0 p1 = a26 from (by unfold sX10_bring_26; exact (if_pos c5)), show sX10_bring_27 a2 a4 a9 a26 a27 p0 p1 = a27 from (by unfold sX10_bring_27; exact (if_pos c5))])
  ·
    have q5 := isCase_in ca cb c5
    refine s_aload_n X (pc := 8) (x := (ad 0)) 0 dX10_bring_8 rfl ?_
    refine s_iload_n X (pc := 9) (x := p1) 2 dX10_bring_9 rfl ?_
    refine s_callVi0 X (pc := 10) (r := rX10_isHut a2 p1) (w := wX10 G ad a0 a1 a2 a3 a4 a5 a6 a7 a8 a9 a10 a11 a12 a13 a14 a15 a16 a17 a18 a19 a20 a21 a22 a23 a24 a25 a26 a27 a28 a29 a30 a31 a32 a33 a34 a35 a36 a37 a38) (n := 1) (st := []) (As := [.int p1]) (w2 := wX10 G ad a0 a1 a2 a3 a4 a5 a6 a7 a8 a9 a10 a11 a12 a13 a14 a15 a16 a17 a18 a19 a20 a21 a22 a23 a24 a25 a26 a27 a28 a29 a30 a31 a32 a33 a34 a35 a36 a37 a38) 1 (c_X10_isHut l G ad a0 a1 a2 a3 a4 a5 a6 a7 a8 a9 a10 a11 a12 a13 a14 a15 a16 a17 a18 a19 a20 a21 a22 a23 a24 a25 a26 a27 a28 a29 a30 a31 a32 a33 a34 a35 a36 a37 a38 p1) gX10_bring_X10_isHut rfl (by decide +kernel) ⟨Nat.le_of_ble_eq_true rfl, Nat.le_of_ble_eq_true rfl⟩ 0 rfl rfl rfl rfl (Nat.le_of_ble_eq_true rfl) (Nat.zero_le _) (Nat.zero_le _) dX10_bring_10 ?_
    refine s_if_ne X (pc := 13) (tgt := 19) dX10_bring_13 (by decide) (fun c13 => ?_) (fun c13 => ?_)
    ·
      have q13 := isHut_in h0 h4 c13
      refine s_aload_n X (pc := 19) (x := (ad 0)) 0 dX10_bring_19 rfl ?_
      refine s_iload_n X (pc := 20) (x := p0) 1 dX10_bring_20 rfl ?_
      refine s_iload_n X (pc := 21) (x := p1) 2 dX10_bring_21 rfl ?_
      refine s_callVi0 X (pc := 22) (r := rX10_canBring a9 p0 p1) (w := wX10 G ad a0 a1 a2 a3 a4 a5 a6 a7 a8 a9 a10 a11 a12 a13 a14 a15 a16 a17 a18 a19 a20 a21 a22 a23 a24 a25 a26 a27 a28 a29 a30 a31 a32 a33 a34 a35 a36 a37 a38) (n := 2) (st := []) (As := [.int p0, .int p1]) (w2 := wX10 G ad a0 a1 a2 a3 a4 a5 a6 a7 a8 a9 a10 a11 a12 a13 a14 a15 a16 a17 a18 a19 a20 a21 a22 a23 a24 a25 a26 a27 a28 a29 a30 a31 a32 a33 a34 a35 a36 a37 a38) 0 (c_X10_canBring l G ad a0 a1 a2 a3 a4 a5 a6 a7 a8 a9 a10 a11 a12 a13 a14 a15 a16 a17 a18 a19 a20 a21 a22 a23 a24 a25 a26 a27 a28 a29 a30 a31 a32 a33 a34 a35 a36 a37 a38 p0 p1 q5.1 q5.2.1 q13.1 q13.2.1) gX10_bring_X10_canBring rfl (by decide +kernel) ⟨Nat.le_of_ble_eq_true rfl, Nat.le_of_ble_eq_true rfl⟩ 0 rfl rfl rfl rfl (Nat.le_of_ble_eq_true rfl) (Nat.zero_le _) (Nat.zero_le _) dX10_bring_22 ?_
      refine s_if_ne X (pc := 25) (tgt := 31) dX10_bring_25 (by decide) (fun c25 => ?_) (fun c25 => ?_)
      ·
        refine s_aload_n X (pc := 31) (x := (ad 0)) 0 dX10_bring_31 rfl ?_
        refine s_callVv0 X (pc := 32) (w := wX10 G ad a0 a1 a2 a3 a4 a5 a6 a7 a8 a9 a10 a11 a12 a13 a14 a15 a16 a17 a18 a19 a20 a21 a22 a23 a24 a25 a26 a27 a28 a29 a30 a31 a32 a33 a34 a35 a36 a37 a38) (n := 0) (st := []) (As := []) (w2 := wX10 G ad a0 a1 a2 a3 a4 a5 a6 a7 a8 a9 a10 a11 a12 a13 a14 a15 a16 a17 a18 a19 a20 a21 a22 a23 a24 a25 (sX10_remember_26 a26) (sX10_remember_27 a9 a26 a27) a28 a29 a30 a31 a32 a33 a34 a35 a36 a37 a38) 0 (c_X10_remember l G ad a0 a1 a2 a3 a4 a5 a6 a7 a8 a9 a10 a11 a12 a13 a14 a15 a16 a17 a18 a19 a20 a21 a22 a23 a24 a25 a26 a27 a28 a29 a30 a31 a32 a33 a34 a35 a36 a37 a38 u0 u20) gX10_bring_X10_remember rfl (by decide +kernel) ⟨Nat.le_of_ble_eq_true rfl, Nat.le_of_ble_eq_true rfl⟩ 0 rfl rfl rfl rfl (Nat.le_of_ble_eq_true rfl) (Nat.zero_le _) (Nat.zero_le _) dX10_bring_32 ?_
        refine s_aload_n X (pc := 35) (x := (ad 0)) 0 dX10_bring_35 rfl ?_
        refine s_iload_n X (pc := 36) (x := p0) 1 dX10_bring_36 rfl ?_
        refine s_iload_n X (pc := 37) (x := p1) 2 dX10_bring_37 rfl ?_
        refine s_callVv0 X (pc := 38) (w := wX10 G ad a0 a1 a2 a3 a4 a5 a6 a7 a8 a9 a10 a11 a12 a13 a14 a15 a16 a17 a18 a19 a20 a21 a22 a23 a24 a25 (sX10_remember_26 a26) (sX10_remember_27 a9 a26 a27) a28 a29 a30 a31 a32 a33 a34 a35 a36 a37 a38) (n := 2) (st := []) (As := [.int p0, .int p1]) (w2 := wX10 G ad a0 a1 a2 a3 a4 a5 a6 a7 a8 (sX10_bringNow_9 a9 p0 p1) a10 a11 a12 a13 a14 a15 a16 a17 a18 a19 a20 a21 a22 a23 a24 a25 (sX10_remember_26 a26) (sX10_remember_27 a9 a26 a27) a28 a29 a30 a31 a32 a33 a34 a35 a36 a37 a38) 0 (c_X10_bringNow l G ad a0 a1 a2 a3 a4 a5 a6 a7 a8 a9 a10 a11 a12 a13 a14 a15 a16 a17 a18 a19 a20 a21 a22 a23 a24 a25 (sX10_remember_26 a26) (sX10_remember_27 a9 a26 a27) a28 a29 a30 a31 a32 a33 a34 a35 a36 a37 a38 p0 p1 q5.1 q5.2.1 q13.1 q13.2.1) gX10_bring_X10_bringNow rfl (by decide +kernel) ⟨Nat.le_of_ble_eq_true rfl, Nat.le_of_ble_eq_true rfl⟩ 0 rfl rfl rfl rfl (Nat.le_of_ble_eq_true rfl) (Nat.zero_le _) (Nat.zero_le _) dX10_bring_38 ?_
        refine s_aload_n X (pc := 41) (x := (ad 0)) 0 dX10_bring_41 rfl ?_
        refine s_iconst X (pc := 42) (v := 0) dX10_bring_42 (by decide) ?_
        refine s_callVi0 X (pc := 43) (r := rX10_allThat a4 (sX10_bringNow_9 a9 p0 p1) (0 : Int32)) (w := wX10 G ad a0 a1 a2 a3 a4 a5 a6 a7 a8 (sX10_bringNow_9 a9 p0 p1) a10 a11 a12 a13 a14 a15 a16 a17 a18 a19 a20 a21 a22 a23 a24 a25 (sX10_remember_26 a26) (sX10_remember_27 a9 a26 a27) a28 a29 a30 a31 a32 a33 a34 a35 a36 a37 a38) (n := 1) (st := []) (As := [.int (0 : Int32)]) (w2 := wX10 G ad a0 a1 a2 a3 a4 a5 a6 a7 a8 (sX10_bringNow_9 a9 p0 p1) a10 a11 a12 a13 a14 a15 a16 a17 a18 a19 a20 a21 a22 a23 a24 a25 (sX10_remember_26 a26) (sX10_remember_27 a9 a26 a27) a28 a29 a30 a31 a32 a33 a34 a35 a36 a37 a38) 0 (c_X10_allThat l G ad a0 a1 a2 a3 a4 a5 a6 a7 a8 (sX10_bringNow_9 a9 p0 p1) a10 a11 a12 a13 a14 a15 a16 a17 a18 a19 a20 a21 a22 a23 a24 a25 (sX10_remember_26 a26) (sX10_remember_27 a9 a26 a27) a28 a29 a30 a31 a32 a33 a34 a35 a36 a37 a38 (0 : Int32) ca cb) gX10_bring_X10_allThat rfl (by decide +kernel) ⟨Nat.le_of_ble_eq_true rfl, Nat.le_of_ble_eq_true rfl⟩ 0 rfl rfl rfl rfl (Nat.le_of_ble_eq_true rfl) (Nat.zero_le _) (Nat.zero_le _) dX10_bring_43 ?_
        exact s_iret X (pc := 46) (v := rX10_allThat a4 (sX10_bringNow_9 a9 p0 p1) (0 : Int32)) dX10_bring_46 (Eq.symm (show rX10_bring a2 a4 a9 p0 p1 = rX10_allThat a4 (sX10_bringNow_9 a9 p0 p1) (0 : Int32) from (by unfold rX10_bring; exact ((if_neg c5).trans ((if_neg c13).trans (if_neg c25)))))) (by rw [show sX10_bring_9 a2 a4 a9 p0 p1 = sX10_bringNow_9 a9 p0 p1 from (by unfold sX10_bring_9; exact ((if_neg c5).trans ((if_neg c13).trans (if_neg c25)))), show sX10_bring_26 a2 a4 a9 a26 p0 p1 = sX10_remember_26 a26 from (by unfold sX10_bring_26; exact ((if_neg c5).trans ((if_neg c13).trans (if_neg c25)))), show sX10_bring_27 a2 a4 a9 a26 a27 p0 p1 = sX10_remember_27 a9 a26 a27 from (by unfold sX10_bring_27; exact ((if_neg c5).trans ((if_neg c13).trans (if_neg c25))))])
      ·
        refine s_ldc X (pc := 28) (v := -1000000003) kX10_bring_c183 dX10_bring_28 ?_
        exact s_iret X (pc := 30) (v := (-1000000003 : Int32)) dX10_bring_30 (Eq.symm (show rX10_bring a2 a4 a9 p0 p1 = (-1000000003 : Int32) from (by unfold rX10_bring; exact ((if_neg c5).trans ((if_neg c13).trans (if_pos c25)))))) (by rw [show sX10_bring_9 a2 a4 a9 p0 p1 = a9 from (by unfold sX10_bring_9; exact ((if_neg c5).trans ((if_neg c13).trans (if_pos c25)))), show sX10_bring_26 a2 a4 a9 a26 p0 p1 = a26 from (by unfold sX10_bring_26; exact ((if_neg c5).trans ((if_neg c13).trans (if_pos c25)))), show sX10_bring_27 a2 a4 a9 a26 a27 p0 p1 = a27 from (by unfold sX10_bring_27; exact ((if_neg c5).trans ((if_neg c13).trans (if_pos c25))))])
    ·
      refine s_ldc X (pc := 16) (v := -1000000001) kX10_bring_c190 dX10_bring_16 ?_
      exact s_iret X (pc := 18) (v := (-1000000001 : Int32)) dX10_bring_18 (Eq.symm (show rX10_bring a2 a4 a9 p0 p1 = (-1000000001 : Int32) from (by unfold rX10_bring; exact ((if_neg c5).trans (if_pos c13))))) (by rw [show sX10_bring_9 a2 a4 a9 p0 p1 = a9 from (by unfold sX10_bring_9; exact ((if_neg c5).trans (if_pos c13))), show sX10_bring_26 a2 a4 a9 a26 p0 p1 = a26 from (by unfold sX10_bring_26; exact ((if_neg c5).trans (if_pos c13))), show sX10_bring_27 a2 a4 a9 a26 a27 p0 p1 = a27 from (by unfold sX10_bring_27; exact ((if_neg c5).trans (if_pos c13)))])

theorem iX10_canDraw_X10 : ∀ z ∈ wsX100, z ∈ wsX10_canDraw := fun z h => List.mem_cons_of_mem _ (List.mem_append_right _ h)
theorem kX10_canDraw_28 : Cond.fieldLink RX10 28 "BathingCourtModel" (TX10 9).2.1 (TX10 9).2.2.1 ∈ wsX10_canDraw := List.mem_of_getElem? (i := 1) rfl
theorem kX10_canDraw_13 : Cond.fieldLink RX10 13 "BathingCourtModel" (TX10 3).2.1 (TX10 3).2.2.1 ∈ wsX10_canDraw := List.mem_of_getElem? (i := 2) rfl
def rX10_canDraw (a3 a9 : Nat → Int32) (p0 p1 : Int32) : Int32 := if (a9 ((8 : Int32) + p0).toNatClampNeg) = 0 then (if p1 = (a9 p0.toNatClampNeg) then (0 : Int32) else (if (rX10_in p1.toInt64 (((a9 p0.toNatClampNeg) - (a3 p0.toNatClampNeg)).toInt64) (((a9 p0.toNatClampNeg) + (a3 p0.toNatClampNeg)).toInt64)) = 0 then (0 : Int32) else (1 : Int32))) else (0 : Int32)
set_option maxRecDepth 100000 in
set_option maxHeartbeats 4000000 in
theorem c_X10_canDraw (l : Launch) (G : GT) (ad : Nat → Nat) (a0 : Int32) (a1 : Nat → Int32) (a2 : Int32) (a3 : Nat → Int32) (a4 : Int32) (a5 a6 a7 a8 a9 : Nat → Int32) (a10 : Int32) (a11 : Nat → Int32) (a12 a13 a14 a15 a16 a17 : Int32) (a18 : Nat → Int32) (a19 : Int32) (a20 : Nat → Int32) (a21 : Int32) (a22 a23 a24 a25 : Nat → Int32) (a26 : Int32) (a27 a28 a29 a30 : Nat → Int32) (a31 : Int32) (a32 a33 : Nat → Int32) (a34 : Int32) (a35 a36 a37 a38 : Nat → Int32) (p0 p1 : Int32) (x0 : 0 ≤ p0) (x1 : p0 < 4) : Ci l G yX10_canDraw wsX10_canDraw (rmL 1) [.ref (ad 0), .int p0, .int p1] (wX10 G ad a0 a1 a2 a3 a4 a5 a6 a7 a8 a9 a10 a11 a12 a13 a14 a15 a16 a17 a18 a19 a20 a21 a22 a23 a24 a25 a26 a27 a28 a29 a30 a31 a32 a33 a34 a35 a36 a37 a38) (rX10_canDraw a3 a9 p0 p1) (wX10 G ad a0 a1 a2 a3 a4 a5 a6 a7 a8 a9 a10 a11 a12 a13 a14 a15 a16 a17 a18 a19 a20 a21 a22 a23 a24 a25 a26 a27 a28 a29 a30 a31 a32 a33 a34 a35 a36 a37 a38) := by
  refine ci_start .boolean (by decide) rfl rfl (Nat.le_of_ble_eq_true rfl) ?_
  intro p e s m args below meth c A X
  refine s_perm (lv2 := [(0, .ref (ad 0)), (1, .int p0), (2, .int p1)]) [0, 1, 2] rfl ?_
  refine s_aload_n X (pc := 0) (x := (ad 0)) 0 dX10_canDraw_0 rfl ?_
  refine s_get X (pc := 1) (v := .ref (ad 10)) iX10_canDraw_X10 0 rfl rfl 9 (by decide) kX10_canDraw_28 rfl rfl dX10_canDraw_1 ?_
  refine s_bipush X (pc := 4) (v := 8) dX10_canDraw_4 (by decide) ?_
  refine s_iload_n X (pc := 6) (x := p0) 1 dX10_canDraw_6 rfl ?_
  refine s_iadd X (pc := 7) dX10_canDraw_7 ?_
  refine s_iald X (pc := 8) (n := 23) (f := a9) 7 rfl (by first | with_reducible assumption | exact vin (b := 23) rfl (by grind) (by grind)) dX10_canDraw_8 ?_
  refine s_if_ne X (pc := 9) (tgt := 62) dX10_canDraw_9 (by decide) (fun c9 => ?_) (fun c9 => ?_)
  ·
    refine s_iconst X (pc := 62) (v := 0) dX10_canDraw_62 (by decide) ?_
    exact s_zret X (pc := 63) (v := (0 : Int32)) (Or.inl rfl) dX10_canDraw_63 (Eq.symm (show rX10_canDraw a3 a9 p0 p1 = (0 : Int32) from (by unfold rX10_canDraw; exact (if_neg c9)))) rfl
  ·
    refine s_iload_n X (pc := 12) (x := p1) 2 dX10_canDraw_12 rfl ?_
    refine s_aload_n X (pc := 13) (x := (ad 0)) 0 dX10_canDraw_13 rfl ?_
    refine s_get X (pc := 14) (v := .ref (ad 10)) iX10_canDraw_X10 0 rfl rfl 9 (by decide) kX10_canDraw_28 rfl rfl dX10_canDraw_14 ?_
    refine s_iload_n X (pc := 17) (x := p0) 1 dX10_canDraw_17 rfl ?_
    refine s_iald X (pc := 18) (n := 23) (f := a9) 7 rfl (by first | with_reducible assumption | exact vin (b := 23) rfl (by grind) (by grind)) dX10_canDraw_18 ?_
    refine s_icmp_eq X (pc := 19) (tgt := 62) dX10_canDraw_19 (by decide) (fun c19 => ?_) (fun c19 => ?_)
    ·
      refine s_iconst X (pc := 62) (v := 0) dX10_canDraw_62 (by decide) ?_
      exact s_zret X (pc := 63) (v := (0 : Int32)) (Or.inl rfl) dX10_canDraw_63 (Eq.symm (show rX10_canDraw a3 a9 p0 p1 = (0 : Int32) from (by unfold rX10_canDraw; exact ((if_pos c9).trans (if_pos c19))))) rfl
    ·
      refine s_iload_n X (pc := 22) (x := p1) 2 dX10_canDraw_22 rfl ?_
      refine s_i2l X (pc := 23) dX10_canDraw_23 ?_
      refine s_aload_n X (pc := 24) (x := (ad 0)) 0 dX10_canDraw_24 rfl ?_
      refine s_get X (pc := 25) (v := .ref (ad 10)) iX10_canDraw_X10 0 rfl rfl 9 (by decide) kX10_canDraw_28 rfl rfl dX10_canDraw_25 ?_
      refine s_iload_n X (pc := 28) (x := p0) 1 dX10_canDraw_28 rfl ?_
      refine s_iald X (pc := 29) (n := 23) (f := a9) 7 rfl (by first | with_reducible assumption | exact vin (b := 23) rfl (by grind) (by grind)) dX10_canDraw_29 ?_
      refine s_aload_n X (pc := 30) (x := (ad 0)) 0 dX10_canDraw_30 rfl ?_
      refine s_get X (pc := 31) (v := .ref (ad 4)) iX10_canDraw_X10 0 rfl rfl 3 (by decide) kX10_canDraw_13 rfl rfl dX10_canDraw_31 ?_
      refine s_iload_n X (pc := 34) (x := p0) 1 dX10_canDraw_34 rfl ?_
      refine s_iald X (pc := 35) (n := 4) (f := a3) 2 rfl (by first | with_reducible assumption | exact vin (b := 4) rfl (by grind) (by grind)) dX10_canDraw_35 ?_
      refine s_isub X (pc := 36) dX10_canDraw_36 ?_
      refine s_i2l X (pc := 37) dX10_canDraw_37 ?_
      refine s_aload_n X (pc := 38) (x := (ad 0)) 0 dX10_canDraw_38 rfl ?_
      refine s_get X (pc := 39) (v := .ref (ad 10)) iX10_canDraw_X10 0 rfl rfl 9 (by decide) kX10_canDraw_28 rfl rfl dX10_canDraw_39 ?_
      refine s_iload_n X (pc := 42) (x := p0) 1 dX10_canDraw_42 rfl ?_
      refine s_iald X (pc := 43) (n := 23) (f := a9) 7 rfl (by first | with_reducible assumption | exact vin (b := 23) rfl (by grind) (by grind)) dX10_canDraw_43 ?_
      refine s_aload_n X (pc := 44) (x := (ad 0)) 0 dX10_canDraw_44 rfl ?_
      refine s_get X (pc := 45) (v := .ref (ad 4)) iX10_canDraw_X10 0 rfl rfl 3 (by decide) kX10_canDraw_13 rfl rfl dX10_canDraw_45 ?_
      refine s_iload_n X (pc := 48) (x := p0) 1 dX10_canDraw_48 rfl ?_
      refine s_iald X (pc := 49) (n := 4) (f := a3) 2 rfl (by first | with_reducible assumption | exact vin (b := 4) rfl (by grind) (by grind)) dX10_canDraw_49 ?_
      refine s_iadd X (pc := 50) dX10_canDraw_50 ?_
      refine s_i2l X (pc := 51) dX10_canDraw_51 ?_
      refine s_callSiN X (pc := 52) (r := rX10_in p1.toInt64 (((a9 p0.toNatClampNeg) - (a3 p0.toNatClampNeg)).toInt64) (((a9 p0.toNatClampNeg) + (a3 p0.toNatClampNeg)).toInt64)) (n := 3) (st := []) (As := [.long p1.toInt64, .long (((a9 p0.toNatClampNeg) - (a3 p0.toNatClampNeg)).toInt64), .long (((a9 p0.toNatClampNeg) + (a3 p0.toNatClampNeg)).toInt64)]) 0 (c_X10_in l G p1.toInt64 (((a9 p0.toNatClampNeg) - (a3 p0.toNatClampNeg)).toInt64) (((a9 p0.toNatClampNeg) + (a3 p0.toNatClampNeg)).toInt64)) gX10_canDraw_X10_in rfl (by decide +kernel) ⟨Nat.le_of_ble_eq_true rfl, Nat.le_of_ble_eq_true rfl⟩ rfl rfl (Nat.le_of_ble_eq_true rfl) (Nat.zero_le _) (Nat.zero_le _) dX10_canDraw_52 ?_
      refine s_if_eq X (pc := 55) (tgt := 62) dX10_canDraw_55 (by decide) (fun c55 => ?_) (fun c55 => ?_)
      ·
        refine s_iconst X (pc := 62) (v := 0) dX10_canDraw_62 (by decide) ?_
        exact s_zret X (pc := 63) (v := (0 : Int32)) (Or.inl rfl) dX10_canDraw_63 (Eq.symm (show rX10_canDraw a3 a9 p0 p1 = (0 : Int32) from (by unfold rX10_canDraw; exact ((if_pos c9).trans ((if_neg c19).trans (if_pos c55)))))) rfl
      ·
        refine s_iconst X (pc := 58) (v := 1) dX10_canDraw_58 (by decide) ?_
        refine s_goto X (pc := 59) (tgt := 63) dX10_canDraw_59 (by decide) ?_
        exact s_zret X (pc := 63) (v := (1 : Int32)) (Or.inr rfl) dX10_canDraw_63 (Eq.symm (show rX10_canDraw a3 a9 p0 p1 = (1 : Int32) from (by unfold rX10_canDraw; exact ((if_pos c9).trans ((if_neg c19).trans (if_neg c55)))))) rfl
theorem bX10_canDraw (a3 a9 : Nat → Int32) (p0 p1 : Int32) : rX10_canDraw a3 a9 p0 p1 = 0 ∨ rX10_canDraw a3 a9 p0 p1 = 1 := by
  unfold rX10_canDraw
  repeat' split
  all_goals first | exact Or.inl rfl | exact Or.inr rfl | exact bX10_in _ _ _

theorem iX10_drawNow_X10 : ∀ z ∈ wsX100, z ∈ wsX10_drawNow := fun z h => List.mem_cons_of_mem _ (List.mem_append_right _ h)
theorem kX10_drawNow_28 : Cond.fieldLink RX10 28 "BathingCourtModel" (TX10 9).2.1 (TX10 9).2.2.1 ∈ wsX10_drawNow := List.mem_of_getElem? (i := 1) rfl
def sX10_drawNow_9 (a9 : Nat → Int32) (p0 p1 : Int32) : Nat → Int32 := upd (upd a9 p0.toNatClampNeg p1) ((8 : Int32) + p0).toNatClampNeg (1 : Int32)
set_option maxRecDepth 100000 in
set_option maxHeartbeats 4000000 in
theorem c_X10_drawNow (l : Launch) (G : GT) (ad : Nat → Nat) (a0 : Int32) (a1 : Nat → Int32) (a2 : Int32) (a3 : Nat → Int32) (a4 : Int32) (a5 a6 a7 a8 a9 : Nat → Int32) (a10 : Int32) (a11 : Nat → Int32) (a12 a13 a14 a15 a16 a17 : Int32) (a18 : Nat → Int32) (a19 : Int32) (a20 : Nat → Int32) (a21 : Int32) (a22 a23 a24 a25 : Nat → Int32) (a26 : Int32) (a27 a28 a29 a30 : Nat → Int32) (a31 : Int32) (a32 a33 : Nat → Int32) (a34 : Int32) (a35 a36 a37 a38 : Nat → Int32) (p0 p1 : Int32) (x0 : 0 ≤ p0) (x1 : p0 < 4) : Cv l G yX10_drawNow wsX10_drawNow (rmL 0) [.ref (ad 0), .int p0, .int p1] (wX10 G ad a0 a1 a2 a3 a4 a5 a6 a7 a8 a9 a10 a11 a12 a13 a14 a15 a16 a17 a18 a19 a20 a21 a22 a23 a24 a25 a26 a27 a28 a29 a30 a31 a32 a33 a34 a35 a36 a37 a38) (wX10 G ad a0 a1 a2 a3 a4 a5 a6 a7 a8 (sX10_drawNow_9 a9 p0 p1) a10 a11 a12 a13 a14 a15 a16 a17 a18 a19 a20 a21 a22 a23 a24 a25 a26 a27 a28 a29 a30 a31 a32 a33 a34 a35 a36 a37 a38) := by
  refine cv_start (by decide) rfl rfl (Nat.le_of_ble_eq_true rfl) ?_
  intro p e s m args below meth c A X
  refine s_perm (lv2 := [(0, .ref (ad 0)), (1, .int p0), (2, .int p1)]) [0, 1, 2] rfl ?_
  refine s_aload_n X (pc := 0) (x := (ad 0)) 0 dX10_drawNow_0 rfl ?_
  refine s_get X (pc := 1) (v := .ref (ad 10)) iX10_drawNow_X10 0 rfl rfl 9 (by decide) kX10_drawNow_28 rfl rfl dX10_drawNow_1 ?_
  refine s_iload_n X (pc := 4) (x := p0) 1 dX10_drawNow_4 rfl ?_
  refine s_iload_n X (pc := 5) (x := p1) 2 dX10_drawNow_5 rfl ?_
  refine s_iast X (pc := 6) (n := 23) (f := a9) (w2 := wX10 G ad a0 a1 a2 a3 a4 a5 a6 a7 a8 (upd a9 p0.toNatClampNeg p1) a10 a11 a12 a13 a14 a15 a16 a17 a18 a19 a20 a21 a22 a23 a24 a25 a26 a27 a28 a29 a30 a31 a32 a33 a34 a35 a36 a37 a38) 7 rfl (by first | with_reducible assumption | exact vin (b := 23) rfl (by grind) (by grind)) rfl dX10_drawNow_6 ?_
  refine s_aload_n X (pc := 7) (x := (ad 0)) 0 dX10_drawNow_7 rfl ?_
  refine s_get X (pc := 8) (v := .ref (ad 10)) iX10_drawNow_X10 0 rfl rfl 9 (by decide) kX10_drawNow_28 rfl rfl dX10_drawNow_8 ?_
  refine s_bipush X (pc := 11) (v := 8) dX10_drawNow_11 (by decide) ?_
  refine s_iload_n X (pc := 13) (x := p0) 1 dX10_drawNow_13 rfl ?_
  refine s_iadd X (pc := 14) dX10_drawNow_14 ?_
  refine s_iconst X (pc := 15) (v := 1) dX10_drawNow_15 (by decide) ?_
  refine s_iast X (pc := 16) (n := 23) (f := upd a9 p0.toNatClampNeg p1) (w2 := wX10 G ad a0 a1 a2 a3 a4 a5 a6 a7 a8 (upd (upd a9 p0.toNatClampNeg p1) ((8 : Int32) + p0).toNatClampNeg (1 : Int32)) a10 a11 a12 a13 a14 a15 a16 a17 a18 a19 a20 a21 a22 a23 a24 a25 a26 a27 a28 a29 a30 a31 a32 a33 a34 a35 a36 a37 a38) 7 rfl (by first | with_reducible assumption | exact vin (b := 23) rfl (by grind) (by grind)) rfl dX10_drawNow_16 ?_
  exact s_vret X (pc := 17) dX10_drawNow_17 (by rw [show sX10_drawNow_9 a9 p0 p1 = upd (upd a9 p0.toNatClampNeg p1) ((8 : Int32) + p0).toNatClampNeg (1 : Int32) from rfl])

theorem drawNow_22 {f : Nat → Int32} {p0 p1 : Int32} (x0 : 0 ≤ p0) (x1 : p0 < 4) : sX10_drawNow_9 f p0 p1 22 = f 22 := by
  have l0 := cl_lt (n := 4) (b := 4) rfl x0 x1
  have i8 : ((8 : Int32) + p0).toNatClampNeg = 8 + p0.toNatClampNeg := ixA 8 x0 (by omega)
  unfold sX10_drawNow_9 upd
  rw [i8, if_neg (by omega), if_neg (by omega)]
theorem add0 {x : Int32} : x + 0 = x := by grind

theorem kX10_drawTo_c183 : Jvm.Cond.constant RX10 183 (-1000000003) ∈ wsX10_drawTo := List.mem_of_getElem? (i := 3) rfl
theorem kX10_drawTo_c101 : Jvm.Cond.constant RX10 101 (-1000000002) ∈ wsX10_drawTo := List.mem_of_getElem? (i := 2) rfl
theorem kX10_drawTo_c190 : Jvm.Cond.constant RX10 190 (-1000000001) ∈ wsX10_drawTo := List.mem_of_getElem? (i := 1) rfl
def rX10_drawTo (a0 : Int32) (a1 : Nat → Int32) (a2 : Int32) (a3 a9 : Nat → Int32) (p0 p1 : Int32) : Int32 := if (rX10_isHut a2 p0) = 0 then (-1000000001 : Int32) else (if (rX10_isCell p1) = 0 then (-1000000002 : Int32) else (if (rX10_canDraw a3 a9 p0 p1) = 0 then (-1000000003 : Int32) else (rX10_depthBehind a0 a1 (sX10_drawNow_9 a9 p0 p1) p1 (0 : Int32))))
def sX10_drawTo_9 (a2 : Int32) (a3 a9 : Nat → Int32) (p0 p1 : Int32) : Nat → Int32 := if (rX10_isHut a2 p0) = 0 then a9 else (if (rX10_isCell p1) = 0 then a9 else (if (rX10_canDraw a3 a9 p0 p1) = 0 then a9 else (sX10_drawNow_9 a9 p0 p1)))
def sX10_drawTo_26 (a2 : Int32) (a3 a9 : Nat → Int32) (a26 p0 p1 : Int32) : Int32 := if (rX10_isHut a2 p0) = 0 then a26 else (if (rX10_isCell p1) = 0 then a26 else (if (rX10_canDraw a3 a9 p0 p1) = 0 then a26 else (sX10_remember_26 a26)))
def sX10_drawTo_27 (a2 : Int32) (a3 a9 : Nat → Int32) (a26 : Int32) (a27 : Nat → Int32) (p0 p1 : Int32) : Nat → Int32 := if (rX10_isHut a2 p0) = 0 then a27 else (if (rX10_isCell p1) = 0 then a27 else (if (rX10_canDraw a3 a9 p0 p1) = 0 then a27 else (sX10_remember_27 a9 a26 a27)))
set_option maxRecDepth 100000 in
set_option maxHeartbeats 4000000 in
theorem c_X10_drawTo (l : Launch) (G : GT) (ad : Nat → Nat) (a0 : Int32) (a1 : Nat → Int32) (a2 : Int32) (a3 : Nat → Int32) (a4 : Int32) (a5 a6 a7 a8 a9 : Nat → Int32) (a10 : Int32) (a11 : Nat → Int32) (a12 a13 a14 a15 a16 a17 : Int32) (a18 : Nat → Int32) (a19 : Int32) (a20 : Nat → Int32) (a21 : Int32) (a22 a23 a24 a25 : Nat → Int32) (a26 : Int32) (a27 a28 a29 a30 : Nat → Int32) (a31 : Int32) (a32 a33 : Nat → Int32) (a34 : Int32) (a35 a36 a37 a38 : Nat → Int32) (p0 p1 : Int32) (h0 : 0 ≤ a2) (h4 : a2 ≤ 4) (u0 : 0 ≤ a26) (u20 : a26 ≤ 20) (t12 : a0 ≤ 12) (n0 : 0 ≤ a9 22) (th : 0 < a2 → 0 < a0) : Ci l G yX10_drawTo wsX10_drawTo (rmL 2) [.ref (ad 0), .int p0, .int p1] (wX10 G ad a0 a1 a2 a3 a4 a5 a6 a7 a8 a9 a10 a11 a12 a13 a14 a15 a16 a17 a18 a19 a20 a21 a22 a23 a24 a25 a26 a27 a28 a29 a30 a31 a32 a33 a34 a35 a36 a37 a38) (rX10_drawTo a0 a1 a2 a3 a9 p0 p1) (wX10 G ad a0 a1 a2 a3 a4 a5 a6 a7 a8 (sX10_drawTo_9 a2 a3 a9 p0 p1) a10 a11 a12 a13 a14 a15 a16 a17 a18 a19 a20 a21 a22 a23 a24 a25 (sX10_drawTo_26 a2 a3 a9 a26 p0 p1) (sX10_drawTo_27 a2 a3 a9 a26 a27 p0 p1) a28 a29 a30 a31 a32 a33 a34 a35 a36 a37 a38) := by
  refine ci_start .int (by decide) rfl rfl (Nat.le_of_ble_eq_true rfl) ?_
  intro p e s m args below meth c A X
  refine s_perm (lv2 := [(0, .ref (ad 0)), (1, .int p0), (2, .int p1)]) [0, 1, 2] rfl ?_
  refine s_aload_n X (pc := 0) (x := (ad 0)) 0 dX10_drawTo_0 rfl ?_
  refine s_iload_n X (pc := 1) (x := p0) 1 dX10_drawTo_1 rfl ?_
  refine s_callVi0 X (pc := 2) (r := rX10_isHut a2 p0) (w := wX10 G ad a0 a1 a2 a3 a4 a5 a6 a7 a8 a9 a10 a11 a12 a13 a14 a15 a16 a17 a18 a19 a20 a21 a22 a23 a24 a25 a26 a27 a28 a29 a30 a31 a32 a33 a34 a35 a36 a37 a38) (n := 1) (st := []) (As := [.int p0]) (w2 := wX10 G ad a0 a1 a2 a3 a4 a5 a6 a7 a8 a9 a10 a11 a12 a13 a14 a15 a16 a17 a18 a19 a20 a21 a22 a23 a24 a25 a26 a27 a28 a29 a30 a31 a32 a33 a34 a35 a36 a37 a38) 1 (c_X10_isHut l G ad a0 a1 a2 a3 a4 a5 a6 a7 a8 a9 a10 a11 a12 a13 a14 a15 a16 a17 a18 a19 a20 a21 a22 a23 a24 a25 a26 a27 a28 a29 a30 a31 a32 a33 a34 a35 a36 a37 a38 p0) gX10_drawTo_X10_isHut rfl (by decide +kernel) ⟨Nat.le_of_ble_eq_true rfl, Nat.le_of_ble_eq_true rfl⟩ 0 rfl rfl rfl rfl (Nat.le_of_ble_eq_true rfl) (Nat.zero_le _) (Nat.zero_le _) dX10_drawTo_2 ?_
  refine s_if_ne X (pc := 5) (tgt := 11) dX10_drawTo_5 (by decide) (fun c5 => ?_) (fun c5 => ?_)
  ·
    have q5 := isHut_in h0 h4 c5
    refine s_iload_n X (pc := 11) (x := p1) 2 dX10_drawTo_11 rfl ?_
    refine s_callSiN X (pc := 12) (r := rX10_isCell p1) (n := 1) (st := []) (As := [.int p1]) 1 (c_X10_isCell l G p1) gX10_drawTo_X10_isCell rfl (by decide +kernel) ⟨Nat.le_of_ble_eq_true rfl, Nat.le_of_ble_eq_true rfl⟩ rfl rfl (Nat.le_of_ble_eq_true rfl) (Nat.zero_le _) (Nat.zero_le _) dX10_drawTo_12 ?_
    refine s_if_ne X (pc := 15) (tgt := 21) dX10_drawTo_15 (by decide) (fun c15 => ?_) (fun c15 => ?_)
    ·
      refine s_aload_n X (pc := 21) (x := (ad 0)) 0 dX10_drawTo_21 rfl ?_
      refine s_iload_n X (pc := 22) (x := p0) 1 dX10_drawTo_22 rfl ?_
      refine s_iload_n X (pc := 23) (x := p1) 2 dX10_drawTo_23 rfl ?_
      refine s_callVi0 X (pc := 24) (r := rX10_canDraw a3 a9 p0 p1) (w := wX10 G ad a0 a1 a2 a3 a4 a5 a6 a7 a8 a9 a10 a11 a12 a13 a14 a15 a16 a17 a18 a19 a20 a21 a22 a23 a24 a25 a26 a27 a28 a29 a30 a31 a32 a33 a34 a35 a36 a37 a38) (n := 2) (st := []) (As := [.int p0, .int p1]) (w2 := wX10 G ad a0 a1 a2 a3 a4 a5 a6 a7 a8 a9 a10 a11 a12 a13 a14 a15 a16 a17 a18 a19 a20 a21 a22 a23 a24 a25 a26 a27 a28 a29 a30 a31 a32 a33 a34 a35 a36 a37 a38) 1 (c_X10_canDraw l G ad a0 a1 a2 a3 a4 a5 a6 a7 a8 a9 a10 a11 a12 a13 a14 a15 a16 a17 a18 a19 a20 a21 a22 a23 a24 a25 a26 a27 a28 a29 a30 a31 a32 a33 a34 a35 a36 a37 a38 p0 p1 q5.1 q5.2.1) gX10_drawTo_X10_canDraw rfl (by decide +kernel) ⟨Nat.le_of_ble_eq_true rfl, Nat.le_of_ble_eq_true rfl⟩ 0 rfl rfl rfl rfl (Nat.le_of_ble_eq_true rfl) (Nat.zero_le _) (Nat.zero_le _) dX10_drawTo_24 ?_
      refine s_if_ne X (pc := 27) (tgt := 33) dX10_drawTo_27 (by decide) (fun c27 => ?_) (fun c27 => ?_)
      ·
        refine s_aload_n X (pc := 33) (x := (ad 0)) 0 dX10_drawTo_33 rfl ?_
        refine s_callVv0 X (pc := 34) (w := wX10 G ad a0 a1 a2 a3 a4 a5 a6 a7 a8 a9 a10 a11 a12 a13 a14 a15 a16 a17 a18 a19 a20 a21 a22 a23 a24 a25 a26 a27 a28 a29 a30 a31 a32 a33 a34 a35 a36 a37 a38) (n := 0) (st := []) (As := []) (w2 := wX10 G ad a0 a1 a2 a3 a4 a5 a6 a7 a8 a9 a10 a11 a12 a13 a14 a15 a16 a17 a18 a19 a20 a21 a22 a23 a24 a25 (sX10_remember_26 a26) (sX10_remember_27 a9 a26 a27) a28 a29 a30 a31 a32 a33 a34 a35 a36 a37 a38) 0 (c_X10_remember l G ad a0 a1 a2 a3 a4 a5 a6 a7 a8 a9 a10 a11 a12 a13 a14 a15 a16 a17 a18 a19 a20 a21 a22 a23 a24 a25 a26 a27 a28 a29 a30 a31 a32 a33 a34 a35 a36 a37 a38 u0 u20) gX10_drawTo_X10_remember rfl (by decide +kernel) ⟨Nat.le_of_ble_eq_true rfl, Nat.le_of_ble_eq_true rfl⟩ 0 rfl rfl rfl rfl (Nat.le_of_ble_eq_true rfl) (Nat.zero_le _) (Nat.zero_le _) dX10_drawTo_34 ?_
        refine s_aload_n X (pc := 37) (x := (ad 0)) 0 dX10_drawTo_37 rfl ?_
        refine s_iload_n X (pc := 38) (x := p0) 1 dX10_drawTo_38 rfl ?_
        refine s_iload_n X (pc := 39) (x := p1) 2 dX10_drawTo_39 rfl ?_
        refine s_callVv0 X (pc := 40) (w := wX10 G ad a0 a1 a2 a3 a4 a5 a6 a7 a8 a9 a10 a11 a12 a13 a14 a15 a16 a17 a18 a19 a20 a21 a22 a23 a24 a25 (sX10_remember_26 a26) (sX10_remember_27 a9 a26 a27) a28 a29 a30 a31 a32 a33 a34 a35 a36 a37 a38) (n := 2) (st := []) (As := [.int p0, .int p1]) (w2 := wX10 G ad a0 a1 a2 a3 a4 a5 a6 a7 a8 (sX10_drawNow_9 a9 p0 p1) a10 a11 a12 a13 a14 a15 a16 a17 a18 a19 a20 a21 a22 a23 a24 a25 (sX10_remember_26 a26) (sX10_remember_27 a9 a26 a27) a28 a29 a30 a31 a32 a33 a34 a35 a36 a37 a38) 0 (c_X10_drawNow l G ad a0 a1 a2 a3 a4 a5 a6 a7 a8 a9 a10 a11 a12 a13 a14 a15 a16 a17 a18 a19 a20 a21 a22 a23 a24 a25 (sX10_remember_26 a26) (sX10_remember_27 a9 a26 a27) a28 a29 a30 a31 a32 a33 a34 a35 a36 a37 a38 p0 p1 q5.1 q5.2.1) gX10_drawTo_X10_drawNow rfl (by decide +kernel) ⟨Nat.le_of_ble_eq_true rfl, Nat.le_of_ble_eq_true rfl⟩ 0 rfl rfl rfl rfl (Nat.le_of_ble_eq_true rfl) (Nat.zero_le _) (Nat.zero_le _) dX10_drawTo_40 ?_
        refine s_aload_n X (pc := 43) (x := (ad 0)) 0 dX10_drawTo_43 rfl ?_
        refine s_iload_n X (pc := 44) (x := p1) 2 dX10_drawTo_44 rfl ?_
        refine s_iconst X (pc := 45) (v := 0) dX10_drawTo_45 (by decide) ?_
        refine s_callVi0 X (pc := 46) (r := rX10_depthBehind a0 a1 (sX10_drawNow_9 a9 p0 p1) p1 (0 : Int32)) (w := wX10 G ad a0 a1 a2 a3 a4 a5 a6 a7 a8 (sX10_drawNow_9 a9 p0 p1) a10 a11 a12 a13 a14 a15 a16 a17 a18 a19 a20 a21 a22 a23 a24 a25 (sX10_remember_26 a26) (sX10_remember_27 a9 a26 a27) a28 a29 a30 a31 a32 a33 a34 a35 a36 a37 a38) (n := 2) (st := []) (As := [.int p1, .int (0 : Int32)]) (w2 := wX10 G ad a0 a1 a2 a3 a4 a5 a6 a7 a8 (sX10_drawNow_9 a9 p0 p1) a10 a11 a12 a13 a14 a15 a16 a17 a18 a19 a20 a21 a22 a23 a24 a25 (sX10_remember_26 a26) (sX10_remember_27 a9 a26 a27) a28 a29 a30 a31 a32 a33 a34 a35 a36 a37 a38) 0 (c_X10_depthBehind l G ad a0 a1 a2 a3 a4 a5 a6 a7 a8 (sX10_drawNow_9 a9 p0 p1) a10 a11 a12 a13 a14 a15 a16 a17 a18 a19 a20 a21 a22 a23 a24 a25 (sX10_remember_26 a26) (sX10_remember_27 a9 a26 a27) a28 a29 a30 a31 a32 a33 a34 a35 a36 a37 a38 p1 (0 : Int32) (th (by grind)) t12 (by rw [drawNow_22 q5.1 q5.2.1, add0]; exact n0)) gX10_drawTo_X10_depthBehind rfl (by decide +kernel) ⟨Nat.le_of_ble_eq_true rfl, Nat.le_of_ble_eq_true rfl⟩ 0 rfl rfl rfl rfl (Nat.le_of_ble_eq_true rfl) (Nat.zero_le _) (Nat.zero_le _) dX10_drawTo_46 ?_
        exact s_iret X (pc := 49) (v := rX10_depthBehind a0 a1 (sX10_drawNow_9 a9 p0 p1) p1 (0 : Int32)) dX10_drawTo_49 (Eq.symm (show rX10_drawTo a0 a1 a2 a3 a9 p0 p1 = rX10_depthBehind a0 a1 (sX10_drawNow_9 a9 p0 p1) p1 (0 : Int32) from (by unfold rX10_drawTo; exact ((if_neg c5).trans ((if_neg c15).trans (if_neg c27)))))) (by rw [show sX10_drawTo_9 a2 a3 a9 p0 p1 = sX10_drawNow_9 a9 p0 p1 from (by unfold sX10_drawTo_9; exact ((if_neg c5).trans ((if_neg c15).trans (if_neg c27)))), show sX10_drawTo_26 a2 a3 a9 a26 p0 p1 = sX10_remember_26 a26 from (by unfold sX10_drawTo_26; exact ((if_neg c5).trans ((if_neg c15).trans (if_neg c27)))), show sX10_drawTo_27 a2 a3 a9 a26 a27 p0 p1 = sX10_remember_27 a9 a26 a27 from (by unfold sX10_drawTo_27; exact ((if_neg c5).trans ((if_neg c15).trans (if_neg c27))))])
      ·
        refine s_ldc X (pc := 30) (v := -1000000003) kX10_drawTo_c183 dX10_drawTo_30 ?_
        exact s_iret X (pc := 32) (v := (-1000000003 : Int32)) dX10_drawTo_32 (Eq.symm (show rX10_drawTo a0 a1 a2 a3 a9 p0 p1 = (-1000000003 : Int32) from (by unfold rX10_drawTo; exact ((if_neg c5).trans ((if_neg c15).trans (if_pos c27)))))) (by rw [show sX10_drawTo_9 a2 a3 a9 p0 p1 = a9 from (by unfold sX10_drawTo_9; exact ((if_neg c5).trans ((if_neg c15).trans (if_pos c27)))), show sX10_drawTo_26 a2 a3 a9 a26 p0 p1 = a26 from (by unfold sX10_drawTo_26; exact ((if_neg c5).trans ((if_neg c15).trans (if_pos c27)))), show sX10_drawTo_27 a2 a3 a9 a26 a27 p0 p1 = a27 from (by unfold sX10_drawTo_27; exact ((if_neg c5).trans ((if_neg c15).trans (if_pos c27))))])
    ·
      refine s_ldc X (pc := 18) (v := -1000000002) kX10_drawTo_c101 dX10_drawTo_18 ?_
      exact s_iret X (pc := 20) (v := (-1000000002 : Int32)) dX10_drawTo_20 (Eq.symm (show rX10_drawTo a0 a1 a2 a3 a9 p0 p1 = (-1000000002 : Int32) from (by unfold rX10_drawTo; exact ((if_neg c5).trans (if_pos c15))))) (by rw [show sX10_drawTo_9 a2 a3 a9 p0 p1 = a9 from (by unfold sX10_drawTo_9; exact ((if_neg c5).trans (if_pos c15))), show sX10_drawTo_26 a2 a3 a9 a26 p0 p1 = a26 from (by unfold sX10_drawTo_26; exact ((if_neg c5).trans (if_pos c15))), show sX10_drawTo_27 a2 a3 a9 a26 a27 p0 p1 = a27 from (by unfold sX10_drawTo_27; exact ((if_neg c5).trans (if_pos c15)))])
  ·
    refine s_ldc X (pc := 8) (v := -1000000001) kX10_drawTo_c190 dX10_drawTo_8 ?_
    exact s_iret X (pc := 10) (v := (-1000000001 : Int32)) dX10_drawTo_10 (Eq.symm (show rX10_drawTo a0 a1 a2 a3 a9 p0 p1 = (-1000000001 : Int32) from (by unfold rX10_drawTo; exact (if_pos c5)))) (by rw [show sX10_drawTo_9 a2 a3 a9 p0 p1 = a9 from (by unfold sX10_drawTo_9; exact (if_pos c5)), show sX10_drawTo_26 a2 a3 a9 a26 p0 p1 = a26 from (by unfold sX10_drawTo_26; exact (if_pos c5)), show sX10_drawTo_27 a2 a3 a9 a26 a27 p0 p1 = a27 from (by unfold sX10_drawTo_27; exact (if_pos c5))])

theorem iX10_settle_X10 : ∀ z ∈ wsX100, z ∈ wsX10_settle := fun z h => List.mem_cons_of_mem _ (List.mem_append_right _ h)
theorem kX10_settle_28 : Cond.fieldLink RX10 28 "BathingCourtModel" (TX10 9).2.1 (TX10 9).2.2.1 ∈ wsX10_settle := List.mem_of_getElem? (i := 2) rfl
theorem kX10_settle_87 : Cond.fieldLink RX10 87 "BathingCourtModel" (TX10 2).2.1 (TX10 2).2.2.1 ∈ wsX10_settle := List.mem_of_getElem? (i := 4) rfl
theorem kX10_settle_25 : Cond.fieldLink RX10 25 "BathingCourtModel" (TX10 8).2.1 (TX10 8).2.2.1 ∈ wsX10_settle := List.mem_of_getElem? (i := 5) rfl
theorem kX10_settle_c183 : Jvm.Cond.constant RX10 183 (-1000000003) ∈ wsX10_settle := List.mem_of_getElem? (i := 3) rfl
theorem kX10_settle_c190 : Jvm.Cond.constant RX10 190 (-1000000001) ∈ wsX10_settle := List.mem_of_getElem? (i := 1) rfl
def aX10_settle_43 (a9 : Nat → Int32) (p0 : Int32) : Nat → (Nat → Int32)
  | 0 => upd a9 ((12 : Int32) + p0).toNatClampNeg (3 : Int32)
  | k43 + 1 => if ((aX10_settle_43 a9 p0 k43) ((4 : Int32) + (nI k43)).toNatClampNeg) = p0 then (upd (aX10_settle_43 a9 p0 k43) ((4 : Int32) + (nI k43)).toNatClampNeg (-1 : Int32)) else (upd (aX10_settle_43 a9 p0 k43) ((4 : Int32) + (nI k43)).toNatClampNeg ((aX10_settle_43 a9 p0 k43) ((4 : Int32) + (nI k43)).toNatClampNeg))
def rX10_settle (a4 : Int32) (a8 a9 : Nat → Int32) (p0 : Int32) : Int32 := if (rX10_isCase a4 p0) = 0 then (-1000000001 : Int32) else (if (a9 ((12 : Int32) + p0).toNatClampNeg) ≤ (1 : Int32) then (a8 p0.toNatClampNeg) else (-1000000003 : Int32))
def sX10_settle_9 (a2 a4 : Int32) (a9 : Nat → Int32) (p0 : Int32) : Nat → Int32 := if (rX10_isCase a4 p0) = 0 then a9 else (if (a9 ((12 : Int32) + p0).toNatClampNeg) ≤ (1 : Int32) then (aX10_settle_43 a9 p0 a2.toNatClampNeg) else a9)
def sX10_settle_26 (a4 : Int32) (a9 : Nat → Int32) (a26 p0 : Int32) : Int32 := if (rX10_isCase a4 p0) = 0 then a26 else (if (a9 ((12 : Int32) + p0).toNatClampNeg) ≤ (1 : Int32) then (sX10_remember_26 a26) else a26)
def sX10_settle_27 (a4 : Int32) (a9 : Nat → Int32) (a26 : Int32) (a27 : Nat → Int32) (p0 : Int32) : Nat → Int32 := if (rX10_isCase a4 p0) = 0 then a27 else (if (a9 ((12 : Int32) + p0).toNatClampNeg) ≤ (1 : Int32) then (sX10_remember_27 a9 a26 a27) else a27)
set_option maxRecDepth 100000 in
set_option maxHeartbeats 4000000 in
theorem c_X10_settle (l : Launch) (G : GT) (ad : Nat → Nat) (a0 : Int32) (a1 : Nat → Int32) (a2 : Int32) (a3 : Nat → Int32) (a4 : Int32) (a5 a6 a7 a8 a9 : Nat → Int32) (a10 : Int32) (a11 : Nat → Int32) (a12 a13 a14 a15 a16 a17 : Int32) (a18 : Nat → Int32) (a19 : Int32) (a20 : Nat → Int32) (a21 : Int32) (a22 a23 a24 a25 : Nat → Int32) (a26 : Int32) (a27 a28 a29 a30 : Nat → Int32) (a31 : Int32) (a32 a33 : Nat → Int32) (a34 : Int32) (a35 a36 a37 a38 : Nat → Int32) (p0 : Int32) (ca : 0 ≤ a4) (cb : a4 ≤ 5) (h0 : 0 ≤ a2) (h4 : a2 ≤ 4) (u0 : 0 ≤ a26) (u20 : a26 ≤ 20) : Ci l G yX10_settle wsX10_settle (rmL 2) [.ref (ad 0), .int p0] (wX10 G ad a0 a1 a2 a3 a4 a5 a6 a7 a8 a9 a10 a11 a12 a13 a14 a15 a16 a17 a18 a19 a20 a21 a22 a23 a24 a25 a26 a27 a28 a29 a30 a31 a32 a33 a34 a35 a36 a37 a38) (rX10_settle a4 a8 a9 p0) (wX10 G ad a0 a1 a2 a3 a4 a5 a6 a7 a8 (sX10_settle_9 a2 a4 a9 p0) a10 a11 a12 a13 a14 a15 a16 a17 a18 a19 a20 a21 a22 a23 a24 a25 (sX10_settle_26 a4 a9 a26 p0) (sX10_settle_27 a4 a9 a26 a27 p0) a28 a29 a30 a31 a32 a33 a34 a35 a36 a37 a38) := by
  refine ci_start .int (by decide) rfl rfl (Nat.le_of_ble_eq_true rfl) ?_
  intro p e s m args below meth c A X
  have e2 := clampInt h0
  have hN2 := clampLe (n := 4) (b := 4) rfl h0 h4
  refine s_perm (lv2 := [(0, .ref (ad 0)), (1, .int p0)]) [0, 1] rfl ?_
  refine s_aload_n X (pc := 0) (x := (ad 0)) 0 dX10_settle_0 rfl ?_
  refine s_iload_n X (pc := 1) (x := p0) 1 dX10_settle_1 rfl ?_
  refine s_callVi0 X (pc := 2) (r := rX10_isCase a4 p0) (w := wX10 G ad a0 a1 a2 a3 a4 a5 a6 a7 a8 a9 a10 a11 a12 a13 a14 a15 a16 a17 a18 a19 a20 a21 a22 a23 a24 a25 a26 a27 a28 a29 a30 a31 a32 a33 a34 a35 a36 a37 a38) (n := 1) (st := []) (As := [.int p0]) (w2 := wX10 G ad a0 a1 a2 a3 a4 a5 a6 a7 a8 a9 a10 a11 a12 a13 a14 a15 a16 a17 a18 a19 a20 a21 a22 a23 a24 a25 a26 a27 a28 a29 a30 a31 a32 a33 a34 a35 a36 a37 a38) 1 (c_X10_isCase l G ad a0 a1 a2 a3 a4 a5 a6 a7 a8 a9 a10 a11 a12 a13 a14 a15 a16 a17 a18 a19 a20 a21 a22 a23 a24 a25 a26 a27 a28 a29 a30 a31 a32 a33 a34 a35 a36 a37 a38 p0) gX10_settle_X10_isCase rfl (by decide +kernel) ⟨Nat.le_of_ble_eq_true rfl, Nat.le_of_ble_eq_true rfl⟩ 0 rfl rfl rfl rfl (Nat.le_of_ble_eq_true rfl) (Nat.zero_le _) (Nat.zero_le _) dX10_settle_2 ?_
  refine s_if_ne X (pc := 5) (tgt := 11) dX10_settle_5 (by decide) (fun c5 => ?_) (fun c5 => ?_)
  ·
    have q5 := isCase_in ca cb c5
    refine s_aload_n X (pc := 11) (x := (ad 0)) 0 dX10_settle_11 rfl ?_
    refine s_get X (pc := 12) (v := .ref (ad 10)) iX10_settle_X10 0 rfl rfl 9 (by decide) kX10_settle_28 rfl rfl dX10_settle_12 ?_
    refine s_bipush X (pc := 15) (v := 12) dX10_settle_15 (by decide) ?_
    refine s_iload_n X (pc := 17) (x := p0) 1 dX10_settle_17 rfl ?_
    refine s_iadd X (pc := 18) dX10_settle_18 ?_
    refine s_iald X (pc := 19) (n := 23) (f := a9) 7 rfl (by first | with_reducible assumption | exact vin (b := 23) rfl (by grind) (by grind)) dX10_settle_19 ?_
    refine s_iconst X (pc := 20) (v := 1) dX10_settle_20 (by decide) ?_
    refine s_icmp_le X (pc := 21) (tgt := 27) dX10_settle_21 (by decide) (fun c21 => ?_) (fun c21 => ?_)
    ·
      refine s_aload_n X (pc := 27) (x := (ad 0)) 0 dX10_settle_27 rfl ?_
      refine s_callVv0 X (pc := 28) (w := wX10 G ad a0 a1 a2 a3 a4 a5 a6 a7 a8 a9 a10 a11 a12 a13 a14 a15 a16 a17 a18 a19 a20 a21 a22 a23 a24 a25 a26 a27 a28 a29 a30 a31 a32 a33 a34 a35 a36 a37 a38) (n := 0) (st := []) (As := []) (w2 := wX10 G ad a0 a1 a2 a3 a4 a5 a6 a7 a8 a9 a10 a11 a12 a13 a14 a15 a16 a17 a18 a19 a20 a21 a22 a23 a24 a25 (sX10_remember_26 a26) (sX10_remember_27 a9 a26 a27) a28 a29 a30 a31 a32 a33 a34 a35 a36 a37 a38) 0 (c_X10_remember l G ad a0 a1 a2 a3 a4 a5 a6 a7 a8 a9 a10 a11 a12 a13 a14 a15 a16 a17 a18 a19 a20 a21 a22 a23 a24 a25 a26 a27 a28 a29 a30 a31 a32 a33 a34 a35 a36 a37 a38 u0 u20) gX10_settle_X10_remember rfl (by decide +kernel) ⟨Nat.le_of_ble_eq_true rfl, Nat.le_of_ble_eq_true rfl⟩ 0 rfl rfl rfl rfl (Nat.le_of_ble_eq_true rfl) (Nat.zero_le _) (Nat.zero_le _) dX10_settle_28 ?_
      refine s_aload_n X (pc := 31) (x := (ad 0)) 0 dX10_settle_31 rfl ?_
      refine s_get X (pc := 32) (v := .ref (ad 10)) iX10_settle_X10 0 rfl rfl 9 (by decide) kX10_settle_28 rfl rfl dX10_settle_32 ?_
      refine s_bipush X (pc := 35) (v := 12) dX10_settle_35 (by decide) ?_
      refine s_iload_n X (pc := 37) (x := p0) 1 dX10_settle_37 rfl ?_
      refine s_iadd X (pc := 38) dX10_settle_38 ?_
      refine s_iconst X (pc := 39) (v := 3) dX10_settle_39 (by decide) ?_
      refine s_iast X (pc := 40) (n := 23) (f := a9) (w2 := wX10 G ad a0 a1 a2 a3 a4 a5 a6 a7 a8 (upd a9 ((12 : Int32) + p0).toNatClampNeg (3 : Int32)) a10 a11 a12 a13 a14 a15 a16 a17 a18 a19 a20 a21 a22 a23 a24 a25 (sX10_remember_26 a26) (sX10_remember_27 a9 a26 a27) a28 a29 a30 a31 a32 a33 a34 a35 a36 a37 a38) 7 rfl (by first | with_reducible assumption | exact vin (b := 23) rfl (by grind) (by grind)) rfl dX10_settle_40 ?_
      refine s_iconst X (pc := 41) (v := 0) dX10_settle_41 (by decide) ?_
      refine s_istore_n X (pc := 42) (i := 2) (lv2 := [(2, .int (0 : Int32)), (0, .ref (ad 0)), (1, .int p0)]) dX10_settle_42 rfl (by decide) rfl ?_
      refine s_perm (lv2 := [(0, .ref (ad 0)), (1, .int p0), (2, .int (0 : Int32))]) [1, 2, 0] rfl ?_
      have L43 : ∀ (n43 k43 : Nat), k43 + n43 = a2.toNatClampNeg → Sm p l e (rmL 2) s m args below meth c G A 3 0 0 (Qci below G A args s (rX10_settle a4 a8 a9 p0) (wX10 G ad a0 a1 a2 a3 a4 a5 a6 a7 a8 (sX10_settle_9 a2 a4 a9 p0) a10 a11 a12 a13 a14 a15 a16 a17 a18 a19 a20 a21 a22 a23 a24 a25 (sX10_settle_26 a4 a9 a26 p0) (sX10_settle_27 a4 a9 a26 a27 p0) a28 a29 a30 a31 a32 a33 a34 a35 a36 a37 a38)) 43 [(0, .ref (ad 0)), (1, .int p0), (2, .int (nI k43))] [] (wX10 G ad a0 a1 a2 a3 a4 a5 a6 a7 a8 (aX10_settle_43 a9 p0 k43) a10 a11 a12 a13 a14 a15 a16 a17 a18 a19 a20 a21 a22 a23 a24 a25 (sX10_remember_26 a26) (sX10_remember_27 a9 a26 a27) a28 a29 a30 a31 a32 a33 a34 a35 a36 a37 a38) := by
        intro n43
        induction n43 with
        | zero =>
          intro k43 hk43
          have hK43 : k43 = a2.toNatClampNeg := by omega
          rw [hK43]
          have tk43 : (nI a2.toNatClampNeg).toInt = ((a2.toNatClampNeg : Nat) : Int) := nI_toInt (by omega)
          have eN43 : (a2).toInt = ((a2.toNatClampNeg : Nat) : Int) := e2
          refine s_iload_n X (pc := 43) (x := nI a2.toNatClampNeg) 2 dX10_settle_43 rfl ?_
          refine s_aload_n X (pc := 44) (x := (ad 0)) 0 dX10_settle_44 rfl ?_
          refine s_get X (pc := 45) (v := .int a2) iX10_settle_X10 0 rfl rfl 2 (by decide) kX10_settle_87 rfl rfl dX10_settle_45 ?_
          refine s_icmp_ge X (pc := 48) (tgt := 89) dX10_settle_48 (by decide) (fun c48 => ?_) (fun c48 => ?_)
          ·
            refine s_aload_n X (pc := 89) (x := (ad 0)) 0 dX10_settle_89 rfl ?_
            refine s_get X (pc := 90) (v := .ref (ad 9)) iX10_settle_X10 0 rfl rfl 8 (by decide) kX10_settle_25 rfl rfl dX10_settle_90 ?_
            refine s_iload_n X (pc := 93) (x := p0) 1 dX10_settle_93 rfl ?_
            refine s_iald X (pc := 94) (n := 5) (f := a8) 6 rfl (by first | with_reducible assumption | exact vin (b := 5) rfl (by grind) (by grind)) dX10_settle_94 ?_
            exact s_iret X (pc := 95) (v := a8 p0.toNatClampNeg) dX10_settle_95 (Eq.symm (show rX10_settle a4 a8 a9 p0 = a8 p0.toNatClampNeg from (by unfold rX10_settle; exact ((if_neg c5).trans (if_pos c21))))) (by rw [show sX10_settle_9 a2 a4 a9 p0 = (aX10_settle_43 a9 p0 a2.toNatClampNeg) from (by unfold sX10_settle_9; exact ((if_neg c5).trans (if_pos c21))), show sX10_settle_26 a4 a9 a26 p0 = sX10_remember_26 a26 from (by unfold sX10_settle_26; exact ((if_neg c5).trans (if_pos c21))), show sX10_settle_27 a4 a9 a26 a27 p0 = sX10_remember_27 a9 a26 a27 from (by unfold sX10_settle_27; exact ((if_neg c5).trans (if_pos c21)))])
          ·
            exact absurd ((t_le eN43 tk43).mpr (by omega)) c48
        | succ n43 ih43 =>
          intro k43 hk43
          have hlt43 : k43 < a2.toNatClampNeg := by omega
          have tk43 : (nI k43).toInt = ((k43 : Nat) : Int) := nI_toInt (by omega)
          have eN43 : (a2).toInt = ((a2.toNatClampNeg : Nat) : Int) := e2
          have kb0 : (0 : Int32) ≤ nI k43 := (t_le (x := 0) rfl tk43).mpr (by omega)
          have kb1 : nI k43 < (4 : Int32) := (t_lt (y := 4) tk43 rfl).mpr (by omega)
          refine s_iload_n X (pc := 43) (x := nI k43) 2 dX10_settle_43 rfl ?_
          refine s_aload_n X (pc := 44) (x := (ad 0)) 0 dX10_settle_44 rfl ?_
          refine s_get X (pc := 45) (v := .int a2) iX10_settle_X10 0 rfl rfl 2 (by decide) kX10_settle_87 rfl rfl dX10_settle_45 ?_
          refine s_icmp_ge X (pc := 48) (tgt := 89) dX10_settle_48 (by decide) (fun c48 => ?_) (fun c48 => ?_)
          ·
            exact absurd ((t_le eN43 tk43).mp c48) (by omega)
          ·
            refine s_aload_n X (pc := 51) (x := (ad 0)) 0 dX10_settle_51 rfl ?_
            refine s_get X (pc := 52) (v := .ref (ad 10)) iX10_settle_X10 0 rfl rfl 9 (by decide) kX10_settle_28 rfl rfl dX10_settle_52 ?_
            refine s_iconst X (pc := 55) (v := 4) dX10_settle_55 (by decide) ?_
            refine s_iload_n X (pc := 56) (x := nI k43) 2 dX10_settle_56 rfl ?_
            refine s_iadd X (pc := 57) dX10_settle_57 ?_
            refine s_aload_n X (pc := 58) (x := (ad 0)) 0 dX10_settle_58 rfl ?_
            refine s_get X (pc := 59) (v := .ref (ad 10)) iX10_settle_X10 0 rfl rfl 9 (by decide) kX10_settle_28 rfl rfl dX10_settle_59 ?_
            refine s_iconst X (pc := 62) (v := 4) dX10_settle_62 (by decide) ?_
            refine s_iload_n X (pc := 63) (x := nI k43) 2 dX10_settle_63 rfl ?_
            refine s_iadd X (pc := 64) dX10_settle_64 ?_
            refine s_iald X (pc := 65) (n := 23) (f := (aX10_settle_43 a9 p0 k43)) 7 rfl (by first | with_reducible assumption | exact vin (b := 23) rfl (by grind) (by grind)) dX10_settle_65 ?_
            refine s_iload_n X (pc := 66) (x := p0) 1 dX10_settle_66 rfl ?_
            refine s_icmp_ne X (pc := 67) (tgt := 74) dX10_settle_67 (by decide) (fun c67 => ?_) (fun c67 => ?_)
            ·
              refine s_aload_n X (pc := 74) (x := (ad 0)) 0 dX10_settle_74 rfl ?_
              refine s_get X (pc := 75) (v := .ref (ad 10)) iX10_settle_X10 0 rfl rfl 9 (by decide) kX10_settle_28 rfl rfl dX10_settle_75 ?_
              refine s_iconst X (pc := 78) (v := 4) dX10_settle_78 (by decide) ?_
              refine s_iload_n X (pc := 79) (x := nI k43) 2 dX10_settle_79 rfl ?_
              refine s_iadd X (pc := 80) dX10_settle_80 ?_
              refine s_iald X (pc := 81) (n := 23) (f := (aX10_settle_43 a9 p0 k43)) 7 rfl (by first | with_reducible assumption | exact vin (b := 23) rfl (by grind) (by grind)) dX10_settle_81 ?_
              refine s_iast X (pc := 82) (n := 23) (f := (aX10_settle_43 a9 p0 k43)) (w2 := wX10 G ad a0 a1 a2 a3 a4 a5 a6 a7 a8 (upd (aX10_settle_43 a9 p0 k43) ((4 : Int32) + (nI k43)).toNatClampNeg ((aX10_settle_43 a9 p0 k43) ((4 : Int32) + (nI k43)).toNatClampNeg)) a10 a11 a12 a13 a14 a15 a16 a17 a18 a19 a20 a21 a22 a23 a24 a25 (sX10_remember_26 a26) (sX10_remember_27 a9 a26 a27) a28 a29 a30 a31 a32 a33 a34 a35 a36 a37 a38) 7 rfl (by first | with_reducible assumption | exact vin (b := 23) rfl (by grind) (by grind)) rfl dX10_settle_82 ?_
              refine s_iinc X (pc := 83) (v := nI (k43 + 1)) (lv2 := [(2, .int (nI (k43 + 1))), (0, .ref (ad 0)), (1, .int p0)]) 2 dX10_settle_83 rfl (nI_1 _) (by decide) rfl ?_
              refine s_goto X (pc := 86) (tgt := 43) dX10_settle_86 (by decide) ?_
              refine s_perm (lv2 := [(0, .ref (ad 0)), (1, .int p0), (2, .int (nI (k43 + 1)))]) [1, 2, 0] rfl ?_
              have hb43 : (aX10_settle_43 a9 p0 (k43 + 1)) = upd (aX10_settle_43 a9 p0 k43) ((4 : Int32) + (nI k43)).toNatClampNeg ((aX10_settle_43 a9 p0 k43) ((4 : Int32) + (nI k43)).toNatClampNeg) := by rw [aX10_settle_43]; exact (if_neg c67)
              refine s_cast (lv2 := [(0, .ref (ad 0)), (1, .int p0), (2, .int (nI (k43 + 1)))]) (w2 := wX10 G ad a0 a1 a2 a3 a4 a5 a6 a7 a8 (aX10_settle_43 a9 p0 (k43 + 1)) a10 a11 a12 a13 a14 a15 a16 a17 a18 a19 a20 a21 a22 a23 a24 a25 (sX10_remember_26 a26) (sX10_remember_27 a9 a26 a27) a28 a29 a30 a31 a32 a33 a34 a35 a36 a37 a38) (by first | (rw [hb43]; done) | rfl) (by first | (rw [hb43]; done) | rfl) ?_
              exact ih43 (k43 + 1) (by omega)
            ·
              refine s_iconst X (pc := 70) (v := -1) dX10_settle_70 (by decide) ?_
              refine s_goto X (pc := 71) (tgt := 82) dX10_settle_71 (by decide) ?_
              refine s_iast X (pc := 82) (n := 23) (f := (aX10_settle_43 a9 p0 k43)) (w2 := wX10 G ad a0 a1 a2 a3 a4 a5 a6 a7 a8 (upd (aX10_settle_43 a9 p0 k43) ((4 : Int32) + (nI k43)).toNatClampNeg (-1 : Int32)) a10 a11 a12 a13 a14 a15 a16 a17 a18 a19 a20 a21 a22 a23 a24 a25 (sX10_remember_26 a26) (sX10_remember_27 a9 a26 a27) a28 a29 a30 a31 a32 a33 a34 a35 a36 a37 a38) 7 rfl (by first | with_reducible assumption | exact vin (b := 23) rfl (by grind) (by grind)) rfl dX10_settle_82 ?_
              refine s_iinc X (pc := 83) (v := nI (k43 + 1)) (lv2 := [(2, .int (nI (k43 + 1))), (0, .ref (ad 0)), (1, .int p0)]) 2 dX10_settle_83 rfl (nI_1 _) (by decide) rfl ?_
              refine s_goto X (pc := 86) (tgt := 43) dX10_settle_86 (by decide) ?_
              refine s_perm (lv2 := [(0, .ref (ad 0)), (1, .int p0), (2, .int (nI (k43 + 1)))]) [1, 2, 0] rfl ?_
              have hb43 : (aX10_settle_43 a9 p0 (k43 + 1)) = upd (aX10_settle_43 a9 p0 k43) ((4 : Int32) + (nI k43)).toNatClampNeg (-1 : Int32) := by rw [aX10_settle_43]; exact (if_pos c67)
              refine s_cast (lv2 := [(0, .ref (ad 0)), (1, .int p0), (2, .int (nI (k43 + 1)))]) (w2 := wX10 G ad a0 a1 a2 a3 a4 a5 a6 a7 a8 (aX10_settle_43 a9 p0 (k43 + 1)) a10 a11 a12 a13 a14 a15 a16 a17 a18 a19 a20 a21 a22 a23 a24 a25 (sX10_remember_26 a26) (sX10_remember_27 a9 a26 a27) a28 a29 a30 a31 a32 a33 a34 a35 a36 a37 a38) (by first | (rw [hb43]; done) | rfl) (by first | (rw [hb43]; done) | rfl) ?_
              exact ih43 (k43 + 1) (by omega)
      exact L43 a2.toNatClampNeg 0 (Nat.zero_add _)
    ·
      refine s_ldc X (pc := 24) (v := -1000000003) kX10_settle_c183 dX10_settle_24 ?_
      exact s_iret X (pc := 26) (v := (-1000000003 : Int32)) dX10_settle_26 (Eq.symm (show rX10_settle a4 a8 a9 p0 = (-1000000003 : Int32) from (by unfold rX10_settle; exact ((if_neg c5).trans (if_neg c21))))) (by rw [show sX10_settle_9 a2 a4 a9 p0 = a9 from (by unfold sX10_settle_9; exact ((if_neg c5).trans (if_neg c21))), show sX10_settle_26 a4 a9 a26 p0 = a26 from (by unfold sX10_settle_26; exact ((if_neg c5).trans (if_neg c21))), show sX10_settle_27 a4 a9 a26 a27 p0 = a27 from (by unfold sX10_settle_27; exact ((if_neg c5).trans (if_neg c21)))])
  ·
    refine s_ldc X (pc := 8) (v := -1000000001) kX10_settle_c190 dX10_settle_8 ?_
    exact s_iret X (pc := 10) (v := (-1000000001 : Int32)) dX10_settle_10 (Eq.symm (show rX10_settle a4 a8 a9 p0 = (-1000000001 : Int32) from (by unfold rX10_settle; exact (if_pos c5)))) (by rw [show sX10_settle_9 a2 a4 a9 p0 = a9 from (by unfold sX10_settle_9; exact (if_pos c5)), show sX10_settle_26 a4 a9 a26 p0 = a26 from (by unfold sX10_settle_26; exact (if_pos c5)), show sX10_settle_27 a4 a9 a26 a27 p0 = a27 from (by unfold sX10_settle_27; exact (if_pos c5))])

/-- the seed behind a draw -/
def sdx (x : Int32) : Int32 := ((((x.toInt64 * (1103515245 : Int64)) + (12345 : Int64)) - ((x.toInt64 * (1103515245 : Int64)) + (12345 : Int64)) / (2147483648 : Int64) * (2147483648 : Int64)).toInt32)
theorem sdx_nI {j : Nat} (h : j < 2147483648) : sdx (nI j) = nI ((j * 1103515245 + 12345) % 2147483648) := by
  unfold sdx
  rw [nI_l h]
  rw [show lN j * (1103515245 : Int64) = lN (j * 1103515245) from lN_mul j 1103515245]
  rw [show lN (j * 1103515245) + (12345 : Int64) = lN (j * 1103515245 + 12345) from lN_add _ 12345]
  rw [show lN (j * 1103515245 + 12345) - lN (j * 1103515245 + 12345) / (2147483648 : Int64) * (2147483648 : Int64) = lN ((j * 1103515245 + 12345) % 2147483648) from pk_lRem (b := 2147483648) (by omega) (by omega) (by omega)]
  exact lN_i _
theorem sdx_nn {x : Int32} (h : 0 ≤ x) : 0 ≤ sdx x := by
  obtain ⟨j, hj, rfl⟩ := nI_of (Int32.not_lt.mpr h)
  rw [sdx_nI hj]
  exact nI_pos' (Nat.mod_lt _ (by decide))
theorem rem_in {x n : Int32} (h : 0 ≤ x) (hn : 0 < n) : 0 ≤ x / 65536 - x / 65536 / n * n ∧ x / 65536 - x / 65536 / n * n < n := by
  obtain ⟨j, hj, rfl⟩ := nI_of (Int32.not_lt.mpr h)
  obtain ⟨d, hd, rfl⟩ := nI_of (Int32.not_lt.mpr (Int32.le_of_lt hn))
  have d0 : 0 < d := by
    have := Int32.lt_iff_toInt_lt.mp hn
    rw [nI_toInt hd] at this
    exact Int.natCast_pos.mp this
  rw [show nI j / (65536 : Int32) = nI (j / 65536) from pk_div (d := 65536) hj (by decide) (by decide)]
  have hq : j / 65536 < 2147483648 := Nat.lt_of_le_of_lt (Nat.div_le_self _ _) hj
  rw [pk_rem hq d0 hd]
  have := Nat.mod_lt (j / 65536) d0
  exact ⟨nI_pos' (Nat.lt_trans this hd), nI_lt this hd⟩

theorem iX10_draw_X10 : ∀ z ∈ wsX100, z ∈ wsX10_draw := fun z h => List.mem_cons_of_mem _ (List.mem_append_right _ h)
theorem kX10_draw_222 : Cond.fieldLink RX10 222 "BathingCourtModel" (TX10 10).2.1 (TX10 10).2.2.1 ∈ wsX10_draw := List.mem_of_getElem? (i := 1) rfl
theorem kX10_draw_l225 : Jvm.Cond.constantLong RX10 225 (1103515245) ∈ wsX10_draw := List.mem_of_getElem? (i := 2) rfl
theorem kX10_draw_l227 : Jvm.Cond.constantLong RX10 227 (12345) ∈ wsX10_draw := List.mem_of_getElem? (i := 3) rfl
theorem kX10_draw_l229 : Jvm.Cond.constantLong RX10 229 (2147483648) ∈ wsX10_draw := List.mem_of_getElem? (i := 4) rfl
theorem kX10_draw_c231 : Jvm.Cond.constant RX10 231 (65536) ∈ wsX10_draw := List.mem_of_getElem? (i := 5) rfl
set_option maxRecDepth 100000 in
set_option maxHeartbeats 4000000 in
theorem c_X10_draw (l : Launch) (G : GT) (ad : Nat → Nat) (a0 : Int32) (a1 : Nat → Int32) (a2 : Int32) (a3 : Nat → Int32) (a4 : Int32) (a5 a6 a7 a8 a9 : Nat → Int32) (a10 : Int32) (a11 : Nat → Int32) (a12 a13 a14 a15 a16 a17 : Int32) (a18 : Nat → Int32) (a19 : Int32) (a20 : Nat → Int32) (a21 : Int32) (a22 a23 a24 a25 : Nat → Int32) (a26 : Int32) (a27 a28 a29 a30 : Nat → Int32) (a31 : Int32) (a32 a33 : Nat → Int32) (a34 : Int32) (a35 a36 a37 a38 : Nat → Int32) (p0 : Int32) (hn : ¬ p0 = 0) : Ci l G yX10_draw wsX10_draw (rmL 0) [.ref (ad 0), .int p0] (wX10 G ad a0 a1 a2 a3 a4 a5 a6 a7 a8 a9 a10 a11 a12 a13 a14 a15 a16 a17 a18 a19 a20 a21 a22 a23 a24 a25 a26 a27 a28 a29 a30 a31 a32 a33 a34 a35 a36 a37 a38) (sdx a10 / 65536 - sdx a10 / 65536 / p0 * p0) (wX10 G ad a0 a1 a2 a3 a4 a5 a6 a7 a8 a9 (sdx a10) a11 a12 a13 a14 a15 a16 a17 a18 a19 a20 a21 a22 a23 a24 a25 a26 a27 a28 a29 a30 a31 a32 a33 a34 a35 a36 a37 a38) := by
  refine ci_start .int (by decide) rfl rfl (Nat.le_of_ble_eq_true rfl) ?_
  intro p e s m args below meth c A X
  refine s_perm (lv2 := [(0, .ref (ad 0)), (1, .int p0)]) [0, 1] rfl ?_
  refine s_aload_n X (pc := 0) (x := (ad 0)) 0 dX10_draw_0 rfl ?_
  refine s_aload_n X (pc := 1) (x := (ad 0)) 0 dX10_draw_1 rfl ?_
  refine s_get X (pc := 2) (v := .int a10) iX10_draw_X10 0 rfl rfl 10 (by decide) kX10_draw_222 rfl rfl dX10_draw_2 ?_
  refine s_i2l X (pc := 5) dX10_draw_5 ?_
  refine s_ldc2 X (pc := 6) (v := 1103515245) kX10_draw_l225 dX10_draw_6 ?_
  refine s_lmul X (pc := 9) dX10_draw_9 ?_
  refine s_ldc2 X (pc := 10) (v := 12345) kX10_draw_l227 dX10_draw_10 ?_
  refine s_ladd X (pc := 13) dX10_draw_13 ?_
  refine s_ldc2 X (pc := 14) (v := 2147483648) kX10_draw_l229 dX10_draw_14 ?_
  refine s_lrem X (pc := 17) dX10_draw_17 (by decide) ?_
  refine s_l2i X (pc := 18) dX10_draw_18 ?_
  refine s_put X (pc := 19) (v := .int ((((a10.toInt64 * (1103515245 : Int64)) + (12345 : Int64)) - ((a10.toInt64 * (1103515245 : Int64)) + (12345 : Int64)) / (2147483648 : Int64) * (2147483648 : Int64)).toInt32)) (w2 := wX10 G ad a0 a1 a2 a3 a4 a5 a6 a7 a8 a9 ((((a10.toInt64 * (1103515245 : Int64)) + (12345 : Int64)) - ((a10.toInt64 * (1103515245 : Int64)) + (12345 : Int64)) / (2147483648 : Int64) * (2147483648 : Int64)).toInt32) a11 a12 a13 a14 a15 a16 a17 a18 a19 a20 a21 a22 a23 a24 a25 a26 a27 a28 a29 a30 a31 a32 a33 a34 a35 a36 a37 a38) iX10_draw_X10 0 rfl rfl 10 (by decide) kX10_draw_222 rfl tyX10 tyX10_ok nmX10 rfl (ty := .int) (by decide +kernel) rfl rfl (Nat.le_of_ble_eq_true rfl) rfl dX10_draw_19 ?_
  refine s_aload_n X (pc := 22) (x := (ad 0)) 0 dX10_draw_22 rfl ?_
  refine s_get X (pc := 23) (v := .int ((((a10.toInt64 * (1103515245 : Int64)) + (12345 : Int64)) - ((a10.toInt64 * (1103515245 : Int64)) + (12345 : Int64)) / (2147483648 : Int64) * (2147483648 : Int64)).toInt32)) iX10_draw_X10 0 rfl rfl 10 (by decide) kX10_draw_222 rfl rfl dX10_draw_23 ?_
  refine s_ldc X (pc := 26) (v := 65536) kX10_draw_c231 dX10_draw_26 ?_
  refine s_idiv X (pc := 28) dX10_draw_28 (by decide) ?_
  refine s_iload_n X (pc := 29) (x := p0) 1 dX10_draw_29 rfl ?_
  refine s_irem X (pc := 30) dX10_draw_30 (by grind) ?_
  exact s_iret X (pc := 31) (v := (((((a10.toInt64 * (1103515245 : Int64)) + (12345 : Int64)) - ((a10.toInt64 * (1103515245 : Int64)) + (12345 : Int64)) / (2147483648 : Int64) * (2147483648 : Int64)).toInt32) / (65536 : Int32)) - (((((a10.toInt64 * (1103515245 : Int64)) + (12345 : Int64)) - ((a10.toInt64 * (1103515245 : Int64)) + (12345 : Int64)) / (2147483648 : Int64) * (2147483648 : Int64)).toInt32) / (65536 : Int32)) / p0 * p0) dX10_draw_31 rfl (by rw [show sdx a10 = (((a10.toInt64 * (1103515245 : Int64)) + (12345 : Int64)) - ((a10.toInt64 * (1103515245 : Int64)) + (12345 : Int64)) / (2147483648 : Int64) * (2147483648 : Int64)).toInt32 from rfl])
