theorem iX0_clear_X0 : ∀ z ∈ wsX00, z ∈ wsX0_clear := fun z h => List.mem_cons_of_mem _ (List.mem_append_right _ h)
theorem kX0_clear_30 : Cond.fieldLink RX0 30 "BathingCourt$Beach" (TX0 6).2.1 (TX0 6).2.2.1 ∈ wsX0_clear := List.mem_of_getElem? (i := 1) rfl
theorem kX0_clear_34 : Cond.fieldLink RX0 34 "BathingCourt$Beach" (TX0 7).2.1 (TX0 7).2.2.1 ∈ wsX0_clear := List.mem_of_getElem? (i := 2) rfl
theorem kX0_clear_37 : Cond.fieldLink RX0 37 "BathingCourt$Beach" (TX0 8).2.1 (TX0 8).2.2.1 ∈ wsX0_clear := List.mem_of_getElem? (i := 3) rfl
def sX0_clear_6 : Int32 := (0 : Int32)
def sX0_clear_7 : Int32 := (0 : Int32)
def sX0_clear_8 : Int32 := (0 : Int32)
set_option maxRecDepth 100000 in
set_option maxHeartbeats 4000000 in
theorem c_X0_clear (l : Launch) (G : GT) (ad : Nat → Nat) (a0 a1 a2 a3 a4 a5 : Nat → Int32) (a6 a7 a8 : Int32) : Cv l G yX0_clear wsX0_clear (rmL 0) [.ref (ad 0)] (wX0 G ad a0 a1 a2 a3 a4 a5 a6 a7 a8) (wX0 G ad a0 a1 a2 a3 a4 a5 sX0_clear_6 sX0_clear_7 sX0_clear_8) := by
  refine cv_start (by decide) rfl rfl (Nat.le_of_ble_eq_true rfl) ?_
  intro p e s m args below meth c A X
  refine s_perm (lv2 := [(0, .ref (ad 0))]) [0] rfl ?_
  refine s_aload_n X (pc := 0) (x := (ad 0)) 0 dX0_clear_0 rfl ?_
  refine s_iconst X (pc := 1) (v := 0) dX0_clear_1 (by decide) ?_
  refine s_put X (pc := 2) (v := .int (0 : Int32)) (w2 := wX0 G ad a0 a1 a2 a3 a4 a5 (0 : Int32) a7 a8) iX0_clear_X0 0 rfl rfl 6 (by decide) kX0_clear_30 rfl tyX0 tyX0_ok nmX0 rfl (ty := .int) (by decide +kernel) rfl rfl (Nat.le_of_ble_eq_true rfl) rfl dX0_clear_2 ?_
  refine s_aload_n X (pc := 5) (x := (ad 0)) 0 dX0_clear_5 rfl ?_
  refine s_iconst X (pc := 6) (v := 0) dX0_clear_6 (by decide) ?_
  refine s_put X (pc := 7) (v := .int (0 : Int32)) (w2 := wX0 G ad a0 a1 a2 a3 a4 a5 (0 : Int32) (0 : Int32) a8) iX0_clear_X0 0 rfl rfl 7 (by decide) kX0_clear_34 rfl tyX0 tyX0_ok nmX0 rfl (ty := .int) (by decide +kernel) rfl rfl (Nat.le_of_ble_eq_true rfl) rfl dX0_clear_7 ?_
  refine s_aload_n X (pc := 10) (x := (ad 0)) 0 dX0_clear_10 rfl ?_
  refine s_iconst X (pc := 11) (v := 0) dX0_clear_11 (by decide) ?_
  refine s_put X (pc := 12) (v := .int (0 : Int32)) (w2 := wX0 G ad a0 a1 a2 a3 a4 a5 (0 : Int32) (0 : Int32) (0 : Int32)) iX0_clear_X0 0 rfl rfl 8 (by decide) kX0_clear_37 rfl tyX0 tyX0_ok nmX0 rfl (ty := .int) (by decide +kernel) rfl rfl (Nat.le_of_ble_eq_true rfl) rfl dX0_clear_12 ?_
  exact s_vret X (pc := 15) dX0_clear_15 (by rw [show sX0_clear_6 = (0 : Int32) from rfl, show sX0_clear_7 = (0 : Int32) from rfl, show sX0_clear_8 = (0 : Int32) from rfl])

theorem iX0_addTide_X0 : ∀ z ∈ wsX00, z ∈ wsX0_addTide := fun z h => List.mem_cons_of_mem _ (List.mem_append_right _ h)
theorem kX0_addTide_30 : Cond.fieldLink RX0 30 "BathingCourt$Beach" (TX0 6).2.1 (TX0 6).2.2.1 ∈ wsX0_addTide := List.mem_of_getElem? (i := 1) rfl
theorem kX0_addTide_9 : Cond.fieldLink RX0 9 "BathingCourt$Beach" (TX0 0).2.1 (TX0 0).2.2.1 ∈ wsX0_addTide := List.mem_of_getElem? (i := 2) rfl
def sX0_addTide_0 (a0 : Nat → Int32) (a6 p0 : Int32) : Nat → Int32 := if (12 : Int32) ≤ a6 then a0 else (upd a0 a6.toNatClampNeg p0)
def sX0_addTide_6 (a6 : Int32) : Int32 := if (12 : Int32) ≤ a6 then a6 else (a6 + (1 : Int32))
set_option maxRecDepth 100000 in
set_option maxHeartbeats 4000000 in
theorem c_X0_addTide (l : Launch) (G : GT) (ad : Nat → Nat) (a0 a1 a2 a3 a4 a5 : Nat → Int32) (a6 a7 a8 p0 : Int32) (h0 : 0 ≤ a6) : Cv l G yX0_addTide wsX0_addTide (rmL 0) [.ref (ad 0), .int p0] (wX0 G ad a0 a1 a2 a3 a4 a5 a6 a7 a8) (wX0 G ad (sX0_addTide_0 a0 a6 p0) a1 a2 a3 a4 a5 (sX0_addTide_6 a6) a7 a8) := by
  refine cv_start (by decide) rfl rfl (Nat.le_of_ble_eq_true rfl) ?_
  intro p e s m args below meth c A X
  refine s_perm (lv2 := [(0, .ref (ad 0)), (1, .int p0)]) [0, 1] rfl ?_
  refine s_aload_n X (pc := 0) (x := (ad 0)) 0 dX0_addTide_0 rfl ?_
  refine s_get X (pc := 1) (v := .int a6) iX0_addTide_X0 0 rfl rfl 6 (by decide) kX0_addTide_30 rfl rfl dX0_addTide_1 ?_
  refine s_bipush X (pc := 4) (v := 12) dX0_addTide_4 (by decide) ?_
  refine s_icmp_ge X (pc := 6) (tgt := 29) dX0_addTide_6 (by decide) (fun c6 => ?_) (fun c6 => ?_)
  ·
    exact s_vret X (pc := 29) dX0_addTide_29 (by rw [show sX0_addTide_0 a0 a6 p0 = a0 from (by unfold sX0_addTide_0; exact (if_pos c6)), show sX0_addTide_6 a6 = a6 from (by unfold sX0_addTide_6; exact (if_pos c6))])
  ·
    refine s_aload_n X (pc := 9) (x := (ad 0)) 0 dX0_addTide_9 rfl ?_
    refine s_get X (pc := 10) (v := .ref (ad 1)) iX0_addTide_X0 0 rfl rfl 0 (by decide) kX0_addTide_9 rfl rfl dX0_addTide_10 ?_
    refine s_aload_n X (pc := 13) (x := (ad 0)) 0 dX0_addTide_13 rfl ?_
    refine s_get X (pc := 14) (v := .int a6) iX0_addTide_X0 0 rfl rfl 6 (by decide) kX0_addTide_30 rfl rfl dX0_addTide_14 ?_
    refine s_iload_n X (pc := 17) (x := p0) 1 dX0_addTide_17 rfl ?_
    refine s_iast X (pc := 18) (n := 12) (f := a0) (w2 := wX0 G ad (upd a0 a6.toNatClampNeg p0) a1 a2 a3 a4 a5 a6 a7 a8) 1 rfl (by first | with_reducible assumption | exact vin (b := 12) rfl (by grind) (by grind)) rfl dX0_addTide_18 ?_
    refine s_aload_n X (pc := 19) (x := (ad 0)) 0 dX0_addTide_19 rfl ?_
    refine s_dup X (pc := 20) dX0_addTide_20 rfl ?_
    refine s_get X (pc := 21) (v := .int a6) iX0_addTide_X0 0 rfl rfl 6 (by decide) kX0_addTide_30 rfl rfl dX0_addTide_21 ?_
    refine s_iconst X (pc := 24) (v := 1) dX0_addTide_24 (by decide) ?_
    refine s_iadd X (pc := 25) dX0_addTide_25 ?_
    refine s_put X (pc := 26) (v := .int (a6 + (1 : Int32))) (w2 := wX0 G ad (upd a0 a6.toNatClampNeg p0) a1 a2 a3 a4 a5 (a6 + (1 : Int32)) a7 a8) iX0_addTide_X0 0 rfl rfl 6 (by decide) kX0_addTide_30 rfl tyX0 tyX0_ok nmX0 rfl (ty := .int) (by decide +kernel) rfl rfl (Nat.le_of_ble_eq_true rfl) rfl dX0_addTide_26 ?_
    exact s_vret X (pc := 29) dX0_addTide_29 (by rw [show sX0_addTide_0 a0 a6 p0 = upd a0 a6.toNatClampNeg p0 from (by unfold sX0_addTide_0; exact (if_neg c6)), show sX0_addTide_6 a6 = a6 + (1 : Int32) from (by unfold sX0_addTide_6; exact (if_neg c6))])

theorem iX0_addHut_X0 : ∀ z ∈ wsX00, z ∈ wsX0_addHut := fun z h => List.mem_cons_of_mem _ (List.mem_append_right _ h)
theorem kX0_addHut_34 : Cond.fieldLink RX0 34 "BathingCourt$Beach" (TX0 7).2.1 (TX0 7).2.2.1 ∈ wsX0_addHut := List.mem_of_getElem? (i := 1) rfl
theorem kX0_addHut_15 : Cond.fieldLink RX0 15 "BathingCourt$Beach" (TX0 1).2.1 (TX0 1).2.2.1 ∈ wsX0_addHut := List.mem_of_getElem? (i := 2) rfl
def sX0_addHut_1 (a1 : Nat → Int32) (a7 p0 : Int32) : Nat → Int32 := if (4 : Int32) ≤ a7 then a1 else (upd a1 a7.toNatClampNeg p0)
def sX0_addHut_7 (a7 : Int32) : Int32 := if (4 : Int32) ≤ a7 then a7 else (a7 + (1 : Int32))
set_option maxRecDepth 100000 in
set_option maxHeartbeats 4000000 in
theorem c_X0_addHut (l : Launch) (G : GT) (ad : Nat → Nat) (a0 a1 a2 a3 a4 a5 : Nat → Int32) (a6 a7 a8 p0 : Int32) (h0 : 0 ≤ a7) : Cv l G yX0_addHut wsX0_addHut (rmL 0) [.ref (ad 0), .int p0] (wX0 G ad a0 a1 a2 a3 a4 a5 a6 a7 a8) (wX0 G ad a0 (sX0_addHut_1 a1 a7 p0) a2 a3 a4 a5 a6 (sX0_addHut_7 a7) a8) := by
  refine cv_start (by decide) rfl rfl (Nat.le_of_ble_eq_true rfl) ?_
  intro p e s m args below meth c A X
  refine s_perm (lv2 := [(0, .ref (ad 0)), (1, .int p0)]) [0, 1] rfl ?_
  refine s_aload_n X (pc := 0) (x := (ad 0)) 0 dX0_addHut_0 rfl ?_
  refine s_get X (pc := 1) (v := .int a7) iX0_addHut_X0 0 rfl rfl 7 (by decide) kX0_addHut_34 rfl rfl dX0_addHut_1 ?_
  refine s_iconst X (pc := 4) (v := 4) dX0_addHut_4 (by decide) ?_
  refine s_icmp_ge X (pc := 5) (tgt := 28) dX0_addHut_5 (by decide) (fun c5 => ?_) (fun c5 => ?_)
  ·
    exact s_vret X (pc := 28) dX0_addHut_28 (by rw [show sX0_addHut_1 a1 a7 p0 = a1 from (by unfold sX0_addHut_1; exact (if_pos c5)), show sX0_addHut_7 a7 = a7 from (by unfold sX0_addHut_7; exact (if_pos c5))])
  ·
    refine s_aload_n X (pc := 8) (x := (ad 0)) 0 dX0_addHut_8 rfl ?_
    refine s_get X (pc := 9) (v := .ref (ad 2)) iX0_addHut_X0 0 rfl rfl 1 (by decide) kX0_addHut_15 rfl rfl dX0_addHut_9 ?_
    refine s_aload_n X (pc := 12) (x := (ad 0)) 0 dX0_addHut_12 rfl ?_
    refine s_get X (pc := 13) (v := .int a7) iX0_addHut_X0 0 rfl rfl 7 (by decide) kX0_addHut_34 rfl rfl dX0_addHut_13 ?_
    refine s_iload_n X (pc := 16) (x := p0) 1 dX0_addHut_16 rfl ?_
    refine s_iast X (pc := 17) (n := 4) (f := a1) (w2 := wX0 G ad a0 (upd a1 a7.toNatClampNeg p0) a2 a3 a4 a5 a6 a7 a8) 2 rfl (by first | with_reducible assumption | exact vin (b := 4) rfl (by grind) (by grind)) rfl dX0_addHut_17 ?_
    refine s_aload_n X (pc := 18) (x := (ad 0)) 0 dX0_addHut_18 rfl ?_
    refine s_dup X (pc := 19) dX0_addHut_19 rfl ?_
    refine s_get X (pc := 20) (v := .int a7) iX0_addHut_X0 0 rfl rfl 7 (by decide) kX0_addHut_34 rfl rfl dX0_addHut_20 ?_
    refine s_iconst X (pc := 23) (v := 1) dX0_addHut_23 (by decide) ?_
    refine s_iadd X (pc := 24) dX0_addHut_24 ?_
    refine s_put X (pc := 25) (v := .int (a7 + (1 : Int32))) (w2 := wX0 G ad a0 (upd a1 a7.toNatClampNeg p0) a2 a3 a4 a5 a6 (a7 + (1 : Int32)) a8) iX0_addHut_X0 0 rfl rfl 7 (by decide) kX0_addHut_34 rfl tyX0 tyX0_ok nmX0 rfl (ty := .int) (by decide +kernel) rfl rfl (Nat.le_of_ble_eq_true rfl) rfl dX0_addHut_25 ?_
    exact s_vret X (pc := 28) dX0_addHut_28 (by rw [show sX0_addHut_1 a1 a7 p0 = upd a1 a7.toNatClampNeg p0 from (by unfold sX0_addHut_1; exact (if_neg c5)), show sX0_addHut_7 a7 = a7 + (1 : Int32) from (by unfold sX0_addHut_7; exact (if_neg c5))])

theorem iX0_addCase_X0 : ∀ z ∈ wsX00, z ∈ wsX0_addCase := fun z h => List.mem_cons_of_mem _ (List.mem_append_right _ h)
theorem kX0_addCase_37 : Cond.fieldLink RX0 37 "BathingCourt$Beach" (TX0 8).2.1 (TX0 8).2.2.1 ∈ wsX0_addCase := List.mem_of_getElem? (i := 1) rfl
theorem kX0_addCase_18 : Cond.fieldLink RX0 18 "BathingCourt$Beach" (TX0 2).2.1 (TX0 2).2.2.1 ∈ wsX0_addCase := List.mem_of_getElem? (i := 2) rfl
theorem kX0_addCase_21 : Cond.fieldLink RX0 21 "BathingCourt$Beach" (TX0 3).2.1 (TX0 3).2.2.1 ∈ wsX0_addCase := List.mem_of_getElem? (i := 3) rfl
theorem kX0_addCase_24 : Cond.fieldLink RX0 24 "BathingCourt$Beach" (TX0 4).2.1 (TX0 4).2.2.1 ∈ wsX0_addCase := List.mem_of_getElem? (i := 4) rfl
theorem kX0_addCase_27 : Cond.fieldLink RX0 27 "BathingCourt$Beach" (TX0 5).2.1 (TX0 5).2.2.1 ∈ wsX0_addCase := List.mem_of_getElem? (i := 5) rfl
def sX0_addCase_2 (a2 : Nat → Int32) (a8 p0 : Int32) : Nat → Int32 := if (5 : Int32) ≤ a8 then a2 else (upd a2 a8.toNatClampNeg p0)
def sX0_addCase_3 (a3 : Nat → Int32) (a8 p1 : Int32) : Nat → Int32 := if (5 : Int32) ≤ a8 then a3 else (upd a3 a8.toNatClampNeg p1)
def sX0_addCase_4 (a4 : Nat → Int32) (a8 p2 : Int32) : Nat → Int32 := if (5 : Int32) ≤ a8 then a4 else (upd a4 a8.toNatClampNeg p2)
def sX0_addCase_5 (a5 : Nat → Int32) (a8 p3 : Int32) : Nat → Int32 := if (5 : Int32) ≤ a8 then a5 else (upd a5 a8.toNatClampNeg p3)
def sX0_addCase_8 (a8 : Int32) : Int32 := if (5 : Int32) ≤ a8 then a8 else (a8 + (1 : Int32))
set_option maxRecDepth 100000 in
set_option maxHeartbeats 4000000 in
theorem c_X0_addCase (l : Launch) (G : GT) (ad : Nat → Nat) (a0 a1 a2 a3 a4 a5 : Nat → Int32) (a6 a7 a8 p0 p1 p2 p3 : Int32) (h0 : 0 ≤ a8) : Cv l G yX0_addCase wsX0_addCase (rmL 0) [.ref (ad 0), .int p0, .int p1, .int p2, .int p3] (wX0 G ad a0 a1 a2 a3 a4 a5 a6 a7 a8) (wX0 G ad a0 a1 (sX0_addCase_2 a2 a8 p0) (sX0_addCase_3 a3 a8 p1) (sX0_addCase_4 a4 a8 p2) (sX0_addCase_5 a5 a8 p3) a6 a7 (sX0_addCase_8 a8)) := by
  refine cv_start (by decide) rfl rfl (Nat.le_of_ble_eq_true rfl) ?_
  intro p e s m args below meth c A X
  refine s_perm (lv2 := [(0, .ref (ad 0)), (1, .int p0), (2, .int p1), (3, .int p2), (4, .int p3)]) [0, 1, 2, 3, 4] rfl ?_
  refine s_aload_n X (pc := 0) (x := (ad 0)) 0 dX0_addCase_0 rfl ?_
  refine s_get X (pc := 1) (v := .int a8) iX0_addCase_X0 0 rfl rfl 8 (by decide) kX0_addCase_37 rfl rfl dX0_addCase_1 ?_
  refine s_iconst X (pc := 4) (v := 5) dX0_addCase_4 (by decide) ?_
  refine s_icmp_ge X (pc := 5) (tgt := 59) dX0_addCase_5 (by decide) (fun c5 => ?_) (fun c5 => ?_)
  ·
    exact s_vret X (pc := 59) dX0_addCase_59 (by rw [show sX0_addCase_2 a2 a8 p0 = a2 from (by unfold sX0_addCase_2; exact (if_pos c5)), show sX0_addCase_3 a3 a8 p1 = a3 from (by unfold sX0_addCase_3; exact (if_pos c5)), show sX0_addCase_4 a4 a8 p2 = a4 from (by unfold sX0_addCase_4; exact (if_pos c5)), show sX0_addCase_5 a5 a8 p3 = a5 from (by unfold sX0_addCase_5; exact (if_pos c5)), show sX0_addCase_8 a8 = a8 from (by unfold sX0_addCase_8; exact (if_pos c5))])
  ·
    refine s_aload_n X (pc := 8) (x := (ad 0)) 0 dX0_addCase_8 rfl ?_
    refine s_get X (pc := 9) (v := .ref (ad 3)) iX0_addCase_X0 0 rfl rfl 2 (by decide) kX0_addCase_18 rfl rfl dX0_addCase_9 ?_
    refine s_aload_n X (pc := 12) (x := (ad 0)) 0 dX0_addCase_12 rfl ?_
    refine s_get X (pc := 13) (v := .int a8) iX0_addCase_X0 0 rfl rfl 8 (by decide) kX0_addCase_37 rfl rfl dX0_addCase_13 ?_
    refine s_iload_n X (pc := 16) (x := p0) 1 dX0_addCase_16 rfl ?_
    refine s_iast X (pc := 17) (n := 5) (f := a2) (w2 := wX0 G ad a0 a1 (upd a2 a8.toNatClampNeg p0) a3 a4 a5 a6 a7 a8) 3 rfl (by first | with_reducible assumption | exact vin (b := 5) rfl (by grind) (by grind)) rfl dX0_addCase_17 ?_
    refine s_aload_n X (pc := 18) (x := (ad 0)) 0 dX0_addCase_18 rfl ?_
    refine s_get X (pc := 19) (v := .ref (ad 4)) iX0_addCase_X0 0 rfl rfl 3 (by decide) kX0_addCase_21 rfl rfl dX0_addCase_19 ?_
    refine s_aload_n X (pc := 22) (x := (ad 0)) 0 dX0_addCase_22 rfl ?_
    refine s_get X (pc := 23) (v := .int a8) iX0_addCase_X0 0 rfl rfl 8 (by decide) kX0_addCase_37 rfl rfl dX0_addCase_23 ?_
    refine s_iload_n X (pc := 26) (x := p1) 2 dX0_addCase_26 rfl ?_
    refine s_iast X (pc := 27) (n := 5) (f := a3) (w2 := wX0 G ad a0 a1 (upd a2 a8.toNatClampNeg p0) (upd a3 a8.toNatClampNeg p1) a4 a5 a6 a7 a8) 4 rfl (by first | with_reducible assumption | exact vin (b := 5) rfl (by grind) (by grind)) rfl dX0_addCase_27 ?_
    refine s_aload_n X (pc := 28) (x := (ad 0)) 0 dX0_addCase_28 rfl ?_
    refine s_get X (pc := 29) (v := .ref (ad 5)) iX0_addCase_X0 0 rfl rfl 4 (by decide) kX0_addCase_24 rfl rfl dX0_addCase_29 ?_
    refine s_aload_n X (pc := 32) (x := (ad 0)) 0 dX0_addCase_32 rfl ?_
    refine s_get X (pc := 33) (v := .int a8) iX0_addCase_X0 0 rfl rfl 8 (by decide) kX0_addCase_37 rfl rfl dX0_addCase_33 ?_
    refine s_iload_n X (pc := 36) (x := p2) 3 dX0_addCase_36 rfl ?_
    refine s_iast X (pc := 37) (n := 5) (f := a4) (w2 := wX0 G ad a0 a1 (upd a2 a8.toNatClampNeg p0) (upd a3 a8.toNatClampNeg p1) (upd a4 a8.toNatClampNeg p2) a5 a6 a7 a8) 5 rfl (by first | with_reducible assumption | exact vin (b := 5) rfl (by grind) (by grind)) rfl dX0_addCase_37 ?_
    refine s_aload_n X (pc := 38) (x := (ad 0)) 0 dX0_addCase_38 rfl ?_
    refine s_get X (pc := 39) (v := .ref (ad 6)) iX0_addCase_X0 0 rfl rfl 5 (by decide) kX0_addCase_27 rfl rfl dX0_addCase_39 ?_
    refine s_aload_n X (pc := 42) (x := (ad 0)) 0 dX0_addCase_42 rfl ?_
    refine s_get X (pc := 43) (v := .int a8) iX0_addCase_X0 0 rfl rfl 8 (by decide) kX0_addCase_37 rfl rfl dX0_addCase_43 ?_
    refine s_iload X (pc := 46) (x := p3) 4 dX0_addCase_46 rfl ?_
    refine s_iast X (pc := 48) (n := 5) (f := a5) (w2 := wX0 G ad a0 a1 (upd a2 a8.toNatClampNeg p0) (upd a3 a8.toNatClampNeg p1) (upd a4 a8.toNatClampNeg p2) (upd a5 a8.toNatClampNeg p3) a6 a7 a8) 6 rfl (by first | with_reducible assumption | exact vin (b := 5) rfl (by grind) (by grind)) rfl dX0_addCase_48 ?_
    refine s_aload_n X (pc := 49) (x := (ad 0)) 0 dX0_addCase_49 rfl ?_
    refine s_dup X (pc := 50) dX0_addCase_50 rfl ?_
    refine s_get X (pc := 51) (v := .int a8) iX0_addCase_X0 0 rfl rfl 8 (by decide) kX0_addCase_37 rfl rfl dX0_addCase_51 ?_
    refine s_iconst X (pc := 54) (v := 1) dX0_addCase_54 (by decide) ?_
    refine s_iadd X (pc := 55) dX0_addCase_55 ?_
    refine s_put X (pc := 56) (v := .int (a8 + (1 : Int32))) (w2 := wX0 G ad a0 a1 (upd a2 a8.toNatClampNeg p0) (upd a3 a8.toNatClampNeg p1) (upd a4 a8.toNatClampNeg p2) (upd a5 a8.toNatClampNeg p3) a6 a7 (a8 + (1 : Int32))) iX0_addCase_X0 0 rfl rfl 8 (by decide) kX0_addCase_37 rfl tyX0 tyX0_ok nmX0 rfl (ty := .int) (by decide +kernel) rfl rfl (Nat.le_of_ble_eq_true rfl) rfl dX0_addCase_56 ?_
    exact s_vret X (pc := 59) dX0_addCase_59 (by rw [show sX0_addCase_2 a2 a8 p0 = upd a2 a8.toNatClampNeg p0 from (by unfold sX0_addCase_2; exact (if_neg c5)), show sX0_addCase_3 a3 a8 p1 = upd a3 a8.toNatClampNeg p1 from (by unfold sX0_addCase_3; exact (if_neg c5)), show sX0_addCase_4 a4 a8 p2 = upd a4 a8.toNatClampNeg p2 from (by unfold sX0_addCase_4; exact (if_neg c5)), show sX0_addCase_5 a5 a8 p3 = upd a5 a8.toNatClampNeg p3 from (by unfold sX0_addCase_5; exact (if_neg c5)), show sX0_addCase_8 a8 = a8 + (1 : Int32) from (by unfold sX0_addCase_8; exact (if_neg c5))])

theorem iX0_stands_X0 : ∀ z ∈ wsX00, z ∈ wsX0_stands := fun z h => List.mem_cons_of_mem _ (List.mem_append_right _ h)
theorem kX0_stands_30 : Cond.fieldLink RX0 30 "BathingCourt$Beach" (TX0 6).2.1 (TX0 6).2.2.1 ∈ wsX0_stands := List.mem_of_getElem? (i := 1) rfl
def rX0_stands (a6 : Int32) : Int32 := if a6 ≤ 0 then (0 : Int32) else (1 : Int32)
set_option maxRecDepth 100000 in
set_option maxHeartbeats 4000000 in
theorem c_X0_stands (l : Launch) (G : GT) (ad : Nat → Nat) (a0 a1 a2 a3 a4 a5 : Nat → Int32) (a6 a7 a8 : Int32) : Ci l G yX0_stands wsX0_stands (rmL 0) [.ref (ad 0)] (wX0 G ad a0 a1 a2 a3 a4 a5 a6 a7 a8) (rX0_stands a6) (wX0 G ad a0 a1 a2 a3 a4 a5 a6 a7 a8) := by
  refine ci_start .boolean (by decide) rfl rfl (Nat.le_of_ble_eq_true rfl) ?_
  intro p e s m args below meth c A X
  refine s_perm (lv2 := [(0, .ref (ad 0))]) [0] rfl ?_
  refine s_aload_n X (pc := 0) (x := (ad 0)) 0 dX0_stands_0 rfl ?_
  refine s_get X (pc := 1) (v := .int a6) iX0_stands_X0 0 rfl rfl 6 (by decide) kX0_stands_30 rfl rfl dX0_stands_1 ?_
  refine s_if_le X (pc := 4) (tgt := 11) dX0_stands_4 (by decide) (fun c4 => ?_) (fun c4 => ?_)
  ·
    refine s_iconst X (pc := 11) (v := 0) dX0_stands_11 (by decide) ?_
    exact s_zret X (pc := 12) (v := (0 : Int32)) (Or.inl rfl) dX0_stands_12 (Eq.symm (show rX0_stands a6 = (0 : Int32) from (by unfold rX0_stands; exact (if_pos c4)))) rfl
  ·
    refine s_iconst X (pc := 7) (v := 1) dX0_stands_7 (by decide) ?_
    refine s_goto X (pc := 8) (tgt := 12) dX0_stands_8 (by decide) ?_
    exact s_zret X (pc := 12) (v := (1 : Int32)) (Or.inr rfl) dX0_stands_12 (Eq.symm (show rX0_stands a6 = (1 : Int32) from (by unfold rX0_stands; exact (if_neg c4)))) rfl
theorem bX0_stands (a6 : Int32) : rX0_stands a6 = 0 ∨ rX0_stands a6 = 1 := by
  unfold rX0_stands
  repeat' split
  all_goals first | exact Or.inl rfl | exact Or.inr rfl

theorem iX0_hasHut_X0 : ∀ z ∈ wsX00, z ∈ wsX0_hasHut := fun z h => List.mem_cons_of_mem _ (List.mem_append_right _ h)
theorem kX0_hasHut_34 : Cond.fieldLink RX0 34 "BathingCourt$Beach" (TX0 7).2.1 (TX0 7).2.2.1 ∈ wsX0_hasHut := List.mem_of_getElem? (i := 1) rfl
def rX0_hasHut (a7 p0 : Int32) : Int32 := if p0 < 0 then (0 : Int32) else (if a7 ≤ p0 then (0 : Int32) else (1 : Int32))
set_option maxRecDepth 100000 in
set_option maxHeartbeats 4000000 in
theorem c_X0_hasHut (l : Launch) (G : GT) (ad : Nat → Nat) (a0 a1 a2 a3 a4 a5 : Nat → Int32) (a6 a7 a8 p0 : Int32) : Ci l G yX0_hasHut wsX0_hasHut (rmL 0) [.ref (ad 0), .int p0] (wX0 G ad a0 a1 a2 a3 a4 a5 a6 a7 a8) (rX0_hasHut a7 p0) (wX0 G ad a0 a1 a2 a3 a4 a5 a6 a7 a8) := by
  refine ci_start .boolean (by decide) rfl rfl (Nat.le_of_ble_eq_true rfl) ?_
  intro p e s m args below meth c A X
  refine s_perm (lv2 := [(0, .ref (ad 0)), (1, .int p0)]) [0, 1] rfl ?_
  refine s_iload_n X (pc := 0) (x := p0) 1 dX0_hasHut_0 rfl ?_
  refine s_if_lt X (pc := 1) (tgt := 16) dX0_hasHut_1 (by decide) (fun c1 => ?_) (fun c1 => ?_)
  ·
    refine s_iconst X (pc := 16) (v := 0) dX0_hasHut_16 (by decide) ?_
    exact s_zret X (pc := 17) (v := (0 : Int32)) (Or.inl rfl) dX0_hasHut_17 (Eq.symm (show rX0_hasHut a7 p0 = (0 : Int32) from (by unfold rX0_hasHut; exact (if_pos c1)))) rfl
  ·
    refine s_iload_n X (pc := 4) (x := p0) 1 dX0_hasHut_4 rfl ?_
    refine s_aload_n X (pc := 5) (x := (ad 0)) 0 dX0_hasHut_5 rfl ?_
    refine s_get X (pc := 6) (v := .int a7) iX0_hasHut_X0 0 rfl rfl 7 (by decide) kX0_hasHut_34 rfl rfl dX0_hasHut_6 ?_
    refine s_icmp_ge X (pc := 9) (tgt := 16) dX0_hasHut_9 (by decide) (fun c9 => ?_) (fun c9 => ?_)
    ·
      refine s_iconst X (pc := 16) (v := 0) dX0_hasHut_16 (by decide) ?_
      exact s_zret X (pc := 17) (v := (0 : Int32)) (Or.inl rfl) dX0_hasHut_17 (Eq.symm (show rX0_hasHut a7 p0 = (0 : Int32) from (by unfold rX0_hasHut; exact ((if_neg c1).trans (if_pos c9))))) rfl
    ·
      refine s_iconst X (pc := 12) (v := 1) dX0_hasHut_12 (by decide) ?_
      refine s_goto X (pc := 13) (tgt := 17) dX0_hasHut_13 (by decide) ?_
      exact s_zret X (pc := 17) (v := (1 : Int32)) (Or.inr rfl) dX0_hasHut_17 (Eq.symm (show rX0_hasHut a7 p0 = (1 : Int32) from (by unfold rX0_hasHut; exact ((if_neg c1).trans (if_neg c9))))) rfl
theorem bX0_hasHut (a7 p0 : Int32) : rX0_hasHut a7 p0 = 0 ∨ rX0_hasHut a7 p0 = 1 := by
  unfold rX0_hasHut
  repeat' split
  all_goals first | exact Or.inl rfl | exact Or.inr rfl

theorem iX0_hasCase_X0 : ∀ z ∈ wsX00, z ∈ wsX0_hasCase := fun z h => List.mem_cons_of_mem _ (List.mem_append_right _ h)
theorem kX0_hasCase_37 : Cond.fieldLink RX0 37 "BathingCourt$Beach" (TX0 8).2.1 (TX0 8).2.2.1 ∈ wsX0_hasCase := List.mem_of_getElem? (i := 1) rfl
def rX0_hasCase (a8 p0 : Int32) : Int32 := if p0 < 0 then (0 : Int32) else (if a8 ≤ p0 then (0 : Int32) else (1 : Int32))
set_option maxRecDepth 100000 in
set_option maxHeartbeats 4000000 in
theorem c_X0_hasCase (l : Launch) (G : GT) (ad : Nat → Nat) (a0 a1 a2 a3 a4 a5 : Nat → Int32) (a6 a7 a8 p0 : Int32) : Ci l G yX0_hasCase wsX0_hasCase (rmL 0) [.ref (ad 0), .int p0] (wX0 G ad a0 a1 a2 a3 a4 a5 a6 a7 a8) (rX0_hasCase a8 p0) (wX0 G ad a0 a1 a2 a3 a4 a5 a6 a7 a8) := by
  refine ci_start .boolean (by decide) rfl rfl (Nat.le_of_ble_eq_true rfl) ?_
  intro p e s m args below meth c A X
  refine s_perm (lv2 := [(0, .ref (ad 0)), (1, .int p0)]) [0, 1] rfl ?_
  refine s_iload_n X (pc := 0) (x := p0) 1 dX0_hasCase_0 rfl ?_
  refine s_if_lt X (pc := 1) (tgt := 16) dX0_hasCase_1 (by decide) (fun c1 => ?_) (fun c1 => ?_)
  ·
    refine s_iconst X (pc := 16) (v := 0) dX0_hasCase_16 (by decide) ?_
    exact s_zret X (pc := 17) (v := (0 : Int32)) (Or.inl rfl) dX0_hasCase_17 (Eq.symm (show rX0_hasCase a8 p0 = (0 : Int32) from (by unfold rX0_hasCase; exact (if_pos c1)))) rfl
  ·
    refine s_iload_n X (pc := 4) (x := p0) 1 dX0_hasCase_4 rfl ?_
    refine s_aload_n X (pc := 5) (x := (ad 0)) 0 dX0_hasCase_5 rfl ?_
    refine s_get X (pc := 6) (v := .int a8) iX0_hasCase_X0 0 rfl rfl 8 (by decide) kX0_hasCase_37 rfl rfl dX0_hasCase_6 ?_
    refine s_icmp_ge X (pc := 9) (tgt := 16) dX0_hasCase_9 (by decide) (fun c9 => ?_) (fun c9 => ?_)
    ·
      refine s_iconst X (pc := 16) (v := 0) dX0_hasCase_16 (by decide) ?_
      exact s_zret X (pc := 17) (v := (0 : Int32)) (Or.inl rfl) dX0_hasCase_17 (Eq.symm (show rX0_hasCase a8 p0 = (0 : Int32) from (by unfold rX0_hasCase; exact ((if_neg c1).trans (if_pos c9))))) rfl
    ·
      refine s_iconst X (pc := 12) (v := 1) dX0_hasCase_12 (by decide) ?_
      refine s_goto X (pc := 13) (tgt := 17) dX0_hasCase_13 (by decide) ?_
      exact s_zret X (pc := 17) (v := (1 : Int32)) (Or.inr rfl) dX0_hasCase_17 (Eq.symm (show rX0_hasCase a8 p0 = (1 : Int32) from (by unfold rX0_hasCase; exact ((if_neg c1).trans (if_neg c9))))) rfl
theorem bX0_hasCase (a8 p0 : Int32) : rX0_hasCase a8 p0 = 0 ∨ rX0_hasCase a8 p0 = 1 := by
  unfold rX0_hasCase
  repeat' split
  all_goals first | exact Or.inl rfl | exact Or.inr rfl

theorem iX0_depthAt_X0 : ∀ z ∈ wsX00, z ∈ wsX0_depthAt := fun z h => List.mem_cons_of_mem _ (List.mem_append_right _ h)
theorem kX0_depthAt_30 : Cond.fieldLink RX0 30 "BathingCourt$Beach" (TX0 6).2.1 (TX0 6).2.2.1 ∈ wsX0_depthAt := List.mem_of_getElem? (i := 1) rfl
theorem kX0_depthAt_9 : Cond.fieldLink RX0 9 "BathingCourt$Beach" (TX0 0).2.1 (TX0 0).2.2.1 ∈ wsX0_depthAt := List.mem_of_getElem? (i := 2) rfl
theorem kX0_depthAt_m40 : Cond.methodLink RX0 40 Lib.Math.max.name ∈ wsX0_depthAt := List.mem_of_getElem? (i := 3) rfl
theorem kX0_depthAt_stmax : Cond.static Lib.Math.max.name ∈ wsX0_depthAt := List.mem_of_getElem? (i := 4) rfl
theorem kX0_depthAt_inMath : Cond.initialized "java/lang/Math" ∈ wsX0_depthAt := List.mem_of_getElem? (i := 5) rfl
theorem kX0_depthAt_comax : Cond.code Lib.Math.max.name Lib.Math.max.code 2 (some .int) ∈ wsX0_depthAt := List.mem_of_getElem? (i := 6) rfl
def rX0_depthAt (a0 : Nat → Int32) (a6 p0 p1 : Int32) : Int32 := if a6 ≤ 0 then (0 : Int32) else (if 0 ≤ p1 then (if (0 : Int32) < ((p0 + (1 : Int32)) - (a0 (p1 - p1 / a6 * a6).toNatClampNeg)) then ((p0 + (1 : Int32)) - (a0 (p1 - p1 / a6 * a6).toNatClampNeg)) else (0 : Int32)) else (0 : Int32))
set_option maxRecDepth 100000 in
set_option maxHeartbeats 4000000 in
theorem c_X0_depthAt (l : Launch) (G : GT) (ad : Nat → Nat) (a0 a1 a2 a3 a4 a5 : Nat → Int32) (a6 a7 a8 p0 p1 : Int32) (hT : a6 ≤ 12) : Ci l G yX0_depthAt wsX0_depthAt (rmL 0) [.ref (ad 0), .int p0, .int p1] (wX0 G ad a0 a1 a2 a3 a4 a5 a6 a7 a8) (rX0_depthAt a0 a6 p0 p1) (wX0 G ad a0 a1 a2 a3 a4 a5 a6 a7 a8) := by
  refine ci_start .int (by decide) rfl rfl (Nat.le_of_ble_eq_true rfl) ?_
  intro p e s m args below meth c A X
  refine s_perm (lv2 := [(0, .ref (ad 0)), (1, .int p0), (2, .int p1)]) [0, 1, 2] rfl ?_
  refine s_aload_n X (pc := 0) (x := (ad 0)) 0 dX0_depthAt_0 rfl ?_
  refine s_get X (pc := 1) (v := .int a6) iX0_depthAt_X0 0 rfl rfl 6 (by decide) kX0_depthAt_30 rfl rfl dX0_depthAt_1 ?_
  refine s_if_le X (pc := 4) (tgt := 11) dX0_depthAt_4 (by decide) (fun c4 => ?_) (fun c4 => ?_)
  ·
    refine s_iconst X (pc := 11) (v := 0) dX0_depthAt_11 (by decide) ?_
    exact s_iret X (pc := 12) (v := (0 : Int32)) dX0_depthAt_12 (Eq.symm (show rX0_depthAt a0 a6 p0 p1 = (0 : Int32) from (by unfold rX0_depthAt; exact (if_pos c4)))) rfl
  ·
    refine s_iload_n X (pc := 7) (x := p1) 2 dX0_depthAt_7 rfl ?_
    refine s_if_ge X (pc := 8) (tgt := 13) dX0_depthAt_8 (by decide) (fun c8 => ?_) (fun c8 => ?_)
    ·
      refine s_iconst X (pc := 13) (v := 0) dX0_depthAt_13 (by decide) ?_
      refine s_iload_n X (pc := 14) (x := p0) 1 dX0_depthAt_14 rfl ?_
      refine s_iconst X (pc := 15) (v := 1) dX0_depthAt_15 (by decide) ?_
      refine s_iadd X (pc := 16) dX0_depthAt_16 ?_
      refine s_aload_n X (pc := 17) (x := (ad 0)) 0 dX0_depthAt_17 rfl ?_
      refine s_get X (pc := 18) (v := .ref (ad 1)) iX0_depthAt_X0 0 rfl rfl 0 (by decide) kX0_depthAt_9 rfl rfl dX0_depthAt_18 ?_
      refine s_iload_n X (pc := 21) (x := p1) 2 dX0_depthAt_21 rfl ?_
      refine s_aload_n X (pc := 22) (x := (ad 0)) 0 dX0_depthAt_22 rfl ?_
      refine s_get X (pc := 23) (v := .int a6) iX0_depthAt_X0 0 rfl rfl 6 (by decide) kX0_depthAt_30 rfl rfl dX0_depthAt_23 ?_
      refine s_irem X (pc := 26) dX0_depthAt_26 (by grind) ?_
      refine s_iald X (pc := 27) (n := 12) (f := a0) 1 rfl (vrem (b := 12) rfl hT (Int32.not_le.mp c4) c8) dX0_depthAt_27 ?_
      refine s_isub X (pc := 28) dX0_depthAt_28 ?_
      refine s_max X (pc := 29) kX0_depthAt_m40 kX0_depthAt_stmax kX0_depthAt_inMath kX0_depthAt_comax (Nat.le_of_ble_eq_true rfl) (Nat.le_of_ble_eq_true rfl) (Nat.zero_le _) (Nat.zero_le _) dX0_depthAt_29 ?_
      exact s_iret X (pc := 32) (v := if (0 : Int32) < ((p0 + (1 : Int32)) - (a0 (p1 - p1 / a6 * a6).toNatClampNeg)) then ((p0 + (1 : Int32)) - (a0 (p1 - p1 / a6 * a6).toNatClampNeg)) else (0 : Int32)) dX0_depthAt_32 (Eq.symm (show rX0_depthAt a0 a6 p0 p1 = if (0 : Int32) < ((p0 + (1 : Int32)) - (a0 (p1 - p1 / a6 * a6).toNatClampNeg)) then ((p0 + (1 : Int32)) - (a0 (p1 - p1 / a6 * a6).toNatClampNeg)) else (0 : Int32) from (by unfold rX0_depthAt; exact ((if_neg c4).trans (if_pos c8))))) rfl
    ·
      refine s_iconst X (pc := 11) (v := 0) dX0_depthAt_11 (by decide) ?_
      exact s_iret X (pc := 12) (v := (0 : Int32)) dX0_depthAt_12 (Eq.symm (show rX0_depthAt a0 a6 p0 p1 = (0 : Int32) from (by unfold rX0_depthAt; exact ((if_neg c4).trans (if_neg c8))))) rfl

theorem iX0_isTooDeep_X0 : ∀ z ∈ wsX00, z ∈ wsX0_isTooDeep := fun z h => List.mem_cons_of_mem _ (List.mem_append_right _ h)
theorem kX0_isTooDeep_18 : Cond.fieldLink RX0 18 "BathingCourt$Beach" (TX0 2).2.1 (TX0 2).2.2.1 ∈ wsX0_isTooDeep := List.mem_of_getElem? (i := 1) rfl
theorem kX0_isTooDeep_24 : Cond.fieldLink RX0 24 "BathingCourt$Beach" (TX0 4).2.1 (TX0 4).2.2.1 ∈ wsX0_isTooDeep := List.mem_of_getElem? (i := 2) rfl
def rX0_isTooDeep (a2 a4 : Nat → Int32) (p0 p1 : Int32) : Int32 := if p1 ≤ ((a2 p0.toNatClampNeg) + (a4 p0.toNatClampNeg)) then (0 : Int32) else (1 : Int32)
set_option maxRecDepth 100000 in
set_option maxHeartbeats 4000000 in
theorem c_X0_isTooDeep (l : Launch) (G : GT) (ad : Nat → Nat) (a0 a1 a2 a3 a4 a5 : Nat → Int32) (a6 a7 a8 p0 p1 : Int32) (hc : vp_in p0 5) : Ci l G yX0_isTooDeep wsX0_isTooDeep (rmL 0) [.ref (ad 0), .int p0, .int p1] (wX0 G ad a0 a1 a2 a3 a4 a5 a6 a7 a8) (rX0_isTooDeep a2 a4 p0 p1) (wX0 G ad a0 a1 a2 a3 a4 a5 a6 a7 a8) := by
  refine ci_start .boolean (by decide) rfl rfl (Nat.le_of_ble_eq_true rfl) ?_
  intro p e s m args below meth c A X
  refine s_perm (lv2 := [(0, .ref (ad 0)), (1, .int p0), (2, .int p1)]) [0, 1, 2] rfl ?_
  refine s_iload_n X (pc := 0) (x := p1) 2 dX0_isTooDeep_0 rfl ?_
  refine s_aload_n X (pc := 1) (x := (ad 0)) 0 dX0_isTooDeep_1 rfl ?_
  refine s_get X (pc := 2) (v := .ref (ad 3)) iX0_isTooDeep_X0 0 rfl rfl 2 (by decide) kX0_isTooDeep_18 rfl rfl dX0_isTooDeep_2 ?_
  refine s_iload_n X (pc := 5) (x := p0) 1 dX0_isTooDeep_5 rfl ?_
  refine s_iald X (pc := 6) (n := 5) (f := a2) 3 rfl (by first | with_reducible assumption | exact vin (b := 5) rfl (by grind) (by grind)) dX0_isTooDeep_6 ?_
  refine s_aload_n X (pc := 7) (x := (ad 0)) 0 dX0_isTooDeep_7 rfl ?_
  refine s_get X (pc := 8) (v := .ref (ad 5)) iX0_isTooDeep_X0 0 rfl rfl 4 (by decide) kX0_isTooDeep_24 rfl rfl dX0_isTooDeep_8 ?_
  refine s_iload_n X (pc := 11) (x := p0) 1 dX0_isTooDeep_11 rfl ?_
  refine s_iald X (pc := 12) (n := 5) (f := a4) 5 rfl (by first | with_reducible assumption | exact vin (b := 5) rfl (by grind) (by grind)) dX0_isTooDeep_12 ?_
  refine s_iadd X (pc := 13) dX0_isTooDeep_13 ?_
  refine s_icmp_le X (pc := 14) (tgt := 21) dX0_isTooDeep_14 (by decide) (fun c14 => ?_) (fun c14 => ?_)
  ·
    refine s_iconst X (pc := 21) (v := 0) dX0_isTooDeep_21 (by decide) ?_
    exact s_zret X (pc := 22) (v := (0 : Int32)) (Or.inl rfl) dX0_isTooDeep_22 (Eq.symm (show rX0_isTooDeep a2 a4 p0 p1 = (0 : Int32) from (by unfold rX0_isTooDeep; exact (if_pos c14)))) rfl
  ·
    refine s_iconst X (pc := 17) (v := 1) dX0_isTooDeep_17 (by decide) ?_
    refine s_goto X (pc := 18) (tgt := 22) dX0_isTooDeep_18 (by decide) ?_
    exact s_zret X (pc := 22) (v := (1 : Int32)) (Or.inr rfl) dX0_isTooDeep_22 (Eq.symm (show rX0_isTooDeep a2 a4 p0 p1 = (1 : Int32) from (by unfold rX0_isTooDeep; exact (if_neg c14)))) rfl
theorem bX0_isTooDeep (a2 a4 : Nat → Int32) (p0 p1 : Int32) : rX0_isTooDeep a2 a4 p0 p1 = 0 ∨ rX0_isTooDeep a2 a4 p0 p1 = 1 := by
  unfold rX0_isTooDeep
  repeat' split
  all_goals first | exact Or.inl rfl | exact Or.inr rfl

theorem iX0_isDeepEnough_X0 : ∀ z ∈ wsX00, z ∈ wsX0_isDeepEnough := fun z h => List.mem_cons_of_mem _ (List.mem_append_right _ h)
theorem kX0_isDeepEnough_18 : Cond.fieldLink RX0 18 "BathingCourt$Beach" (TX0 2).2.1 (TX0 2).2.2.1 ∈ wsX0_isDeepEnough := List.mem_of_getElem? (i := 1) rfl
def rX0_isDeepEnough (a2 : Nat → Int32) (p0 p1 : Int32) : Int32 := if p1 < (a2 p0.toNatClampNeg) then (0 : Int32) else (1 : Int32)
set_option maxRecDepth 100000 in
set_option maxHeartbeats 4000000 in
theorem c_X0_isDeepEnough (l : Launch) (G : GT) (ad : Nat → Nat) (a0 a1 a2 a3 a4 a5 : Nat → Int32) (a6 a7 a8 p0 p1 : Int32) (hc : vp_in p0 5) : Ci l G yX0_isDeepEnough wsX0_isDeepEnough (rmL 0) [.ref (ad 0), .int p0, .int p1] (wX0 G ad a0 a1 a2 a3 a4 a5 a6 a7 a8) (rX0_isDeepEnough a2 p0 p1) (wX0 G ad a0 a1 a2 a3 a4 a5 a6 a7 a8) := by
  refine ci_start .boolean (by decide) rfl rfl (Nat.le_of_ble_eq_true rfl) ?_
  intro p e s m args below meth c A X
  refine s_perm (lv2 := [(0, .ref (ad 0)), (1, .int p0), (2, .int p1)]) [0, 1, 2] rfl ?_
  refine s_iload_n X (pc := 0) (x := p1) 2 dX0_isDeepEnough_0 rfl ?_
  refine s_aload_n X (pc := 1) (x := (ad 0)) 0 dX0_isDeepEnough_1 rfl ?_
  refine s_get X (pc := 2) (v := .ref (ad 3)) iX0_isDeepEnough_X0 0 rfl rfl 2 (by decide) kX0_isDeepEnough_18 rfl rfl dX0_isDeepEnough_2 ?_
  refine s_iload_n X (pc := 5) (x := p0) 1 dX0_isDeepEnough_5 rfl ?_
  refine s_iald X (pc := 6) (n := 5) (f := a2) 3 rfl (by first | with_reducible assumption | exact vin (b := 5) rfl (by grind) (by grind)) dX0_isDeepEnough_6 ?_
  refine s_icmp_lt X (pc := 7) (tgt := 14) dX0_isDeepEnough_7 (by decide) (fun c7 => ?_) (fun c7 => ?_)
  ·
    refine s_iconst X (pc := 14) (v := 0) dX0_isDeepEnough_14 (by decide) ?_
    exact s_zret X (pc := 15) (v := (0 : Int32)) (Or.inl rfl) dX0_isDeepEnough_15 (Eq.symm (show rX0_isDeepEnough a2 p0 p1 = (0 : Int32) from (by unfold rX0_isDeepEnough; exact (if_pos c7)))) rfl
  ·
    refine s_iconst X (pc := 10) (v := 1) dX0_isDeepEnough_10 (by decide) ?_
    refine s_goto X (pc := 11) (tgt := 15) dX0_isDeepEnough_11 (by decide) ?_
    exact s_zret X (pc := 15) (v := (1 : Int32)) (Or.inr rfl) dX0_isDeepEnough_15 (Eq.symm (show rX0_isDeepEnough a2 p0 p1 = (1 : Int32) from (by unfold rX0_isDeepEnough; exact (if_neg c7)))) rfl
theorem bX0_isDeepEnough (a2 : Nat → Int32) (p0 p1 : Int32) : rX0_isDeepEnough a2 p0 p1 = 0 ∨ rX0_isDeepEnough a2 p0 p1 = 1 := by
  unfold rX0_isDeepEnough
  repeat' split
  all_goals first | exact Or.inl rfl | exact Or.inr rfl

theorem kX0_suitsWithin_m46 : Cond.methodLink RX0 46 Lib.Math.min.name ∈ wsX0_suitsWithin := List.mem_of_getElem? (i := 1) rfl
theorem kX0_suitsWithin_stmin : Cond.static Lib.Math.min.name ∈ wsX0_suitsWithin := List.mem_of_getElem? (i := 2) rfl
theorem kX0_suitsWithin_inMath : Cond.initialized "java/lang/Math" ∈ wsX0_suitsWithin := List.mem_of_getElem? (i := 3) rfl
theorem kX0_suitsWithin_comin : Cond.code Lib.Math.min.name Lib.Math.min.code 2 (some .int) ∈ wsX0_suitsWithin := List.mem_of_getElem? (i := 4) rfl
theorem kX0_suitsWithin_m40 : Cond.methodLink RX0 40 Lib.Math.max.name ∈ wsX0_suitsWithin := List.mem_of_getElem? (i := 5) rfl
theorem kX0_suitsWithin_stmax : Cond.static Lib.Math.max.name ∈ wsX0_suitsWithin := List.mem_of_getElem? (i := 6) rfl
theorem kX0_suitsWithin_comax : Cond.code Lib.Math.max.name Lib.Math.max.code 2 (some .int) ∈ wsX0_suitsWithin := List.mem_of_getElem? (i := 7) rfl
def aX0_suitsWithin_15 (a0 a2 a4 : Nat → Int32) (a6 p0 p2 p3 : Int32) : Nat → Int32 → Int32
  | 0, _ => 0
  | n15 + 1, x => if (if (9 : Int32) < p2 then (9 : Int32) else p2) < x then (0 : Int32) else (if (rX0_isDeepEnough a2 p0 (rX0_depthAt a0 a6 x p3)) = 0 then (aX0_suitsWithin_15 a0 a2 a4 a6 p0 p2 p3 n15 (x + (1 : Int32))) else (if (rX0_isTooDeep a2 a4 p0 (rX0_depthAt a0 a6 x p3)) = 0 then (1 : Int32) else (aX0_suitsWithin_15 a0 a2 a4 a6 p0 p2 p3 n15 (x + (1 : Int32)))))
def rX0_suitsWithin (a0 a2 a4 : Nat → Int32) (a6 p0 p1 p2 p3 : Int32) : Int32 := aX0_suitsWithin_15 a0 a2 a4 a6 p0 p2 p3 11 (if p1 < (0 : Int32) then (0 : Int32) else p1)
set_option maxRecDepth 100000 in
set_option maxHeartbeats 4000000 in
theorem c_X0_suitsWithin (l : Launch) (G : GT) (ad : Nat → Nat) (a0 a1 a2 a3 a4 a5 : Nat → Int32) (a6 a7 a8 p0 p1 p2 p3 : Int32) (hT : a6 ≤ 12) (hc : vp_in p0 5) : Ci l G yX0_suitsWithin wsX0_suitsWithin (rmL 1) [.ref (ad 0), .int p0, .int p1, .int p2, .int p3] (wX0 G ad a0 a1 a2 a3 a4 a5 a6 a7 a8) (rX0_suitsWithin a0 a2 a4 a6 p0 p1 p2 p3) (wX0 G ad a0 a1 a2 a3 a4 a5 a6 a7 a8) := by
  refine ci_start .boolean (by decide) rfl rfl (Nat.le_of_ble_eq_true rfl) ?_
  intro p e s m args below meth c A X
  refine s_perm (lv2 := [(0, .ref (ad 0)), (1, .int p0), (2, .int p1), (3, .int p2), (4, .int p3)]) [0, 1, 2, 3, 4] rfl ?_
  refine s_iload_n X (pc := 0) (x := p2) 3 dX0_suitsWithin_0 rfl ?_
  refine s_bipush X (pc := 1) (v := 9) dX0_suitsWithin_1 (by decide) ?_
  refine s_min X (pc := 3) kX0_suitsWithin_m46 kX0_suitsWithin_stmin kX0_suitsWithin_inMath kX0_suitsWithin_comin (Nat.le_of_ble_eq_true rfl) (Nat.le_of_ble_eq_true rfl) (Nat.zero_le _) (Nat.zero_le _) dX0_suitsWithin_3 ?_
  refine s_istore X (pc := 6) (i := 5) (lv2 := [(5, .int (if (9 : Int32) < p2 then (9 : Int32) else p2)), (0, .ref (ad 0)), (1, .int p0), (2, .int p1), (3, .int p2), (4, .int p3)]) dX0_suitsWithin_6 (by decide) rfl ?_
  refine s_iload_n X (pc := 8) (x := p1) 3 dX0_suitsWithin_8 rfl ?_
  refine s_iconst X (pc := 9) (v := 0) dX0_suitsWithin_9 (by decide) ?_
  refine s_max X (pc := 10) kX0_suitsWithin_m40 kX0_suitsWithin_stmax kX0_suitsWithin_inMath kX0_suitsWithin_comax (Nat.le_of_ble_eq_true rfl) (Nat.le_of_ble_eq_true rfl) (Nat.zero_le _) (Nat.zero_le _) dX0_suitsWithin_10 ?_
  refine s_istore X (pc := 13) (i := 6) (lv2 := [(6, .int (if p1 < (0 : Int32) then (0 : Int32) else p1)), (5, .int (if (9 : Int32) < p2 then (9 : Int32) else p2)), (0, .ref (ad 0)), (1, .int p0), (2, .int p1), (3, .int p2), (4, .int p3)]) dX0_suitsWithin_13 (by decide) rfl ?_
  refine s_perm (lv2 := [(0, .ref (ad 0)), (1, .int p0), (2, .int p1), (3, .int p2), (4, .int p3), (5, .int (if (9 : Int32) < p2 then (9 : Int32) else p2)), (6, .int (if p1 < (0 : Int32) then (0 : Int32) else p1))]) [2, 3, 4, 5, 6, 1, 0] rfl ?_
  have L15 : ∀ (n15 : Nat) (x : Int32), (0 ≤ x) → (10 - x.toInt).toNat < n15 → rX0_suitsWithin a0 a2 a4 a6 p0 p1 p2 p3 = aX0_suitsWithin_15 a0 a2 a4 a6 p0 p2 p3 n15 x → Sm p l e (rmL 1) s m args below meth c G A 8 0 0 (Qci below G A args s (rX0_suitsWithin a0 a2 a4 a6 p0 p1 p2 p3) (wX0 G ad a0 a1 a2 a3 a4 a5 a6 a7 a8)) 15 [(0, .ref (ad 0)), (1, .int p0), (2, .int p1), (3, .int p2), (4, .int p3), (5, .int (if (9 : Int32) < p2 then (9 : Int32) else p2)), (6, .int x)] [] (wX0 G ad a0 a1 a2 a3 a4 a5 a6 a7 a8) := by
    intro n15
    induction n15 with
    | zero => intro x hx hm15 hv15; exact absurd hm15 (Nat.not_lt_zero _)
    | succ n15 ih15 =>
      intro x hx hm15 hv15
      refine s_iload X (pc := 15) (x := x) 6 dX0_suitsWithin_15 rfl ?_
      refine s_iload X (pc := 17) (x := if (9 : Int32) < p2 then (9 : Int32) else p2) 5 dX0_suitsWithin_17 rfl ?_
      refine s_icmp_gt X (pc := 19) (tgt := 60) dX0_suitsWithin_19 (by decide) (fun c19 => ?_) (fun c19 => ?_)
      ·
        refine s_iconst X (pc := 60) (v := 0) dX0_suitsWithin_60 (by decide) ?_
        exact s_zret X (pc := 61) (v := (0 : Int32)) (Or.inl rfl) dX0_suitsWithin_61 (Eq.symm (show rX0_suitsWithin a0 a2 a4 a6 p0 p1 p2 p3 = (0 : Int32) from (hv15.trans (show aX0_suitsWithin_15 a0 a2 a4 a6 p0 p2 p3 (n15 + 1) x = (0 : Int32) from by rw [aX0_suitsWithin_15]; exact (if_pos c19))))) rfl
      ·
        refine s_aload_n X (pc := 22) (x := (ad 0)) 0 dX0_suitsWithin_22 rfl ?_
        refine s_iload X (pc := 23) (x := x) 6 dX0_suitsWithin_23 rfl ?_
        refine s_iload X (pc := 25) (x := p3) 4 dX0_suitsWithin_25 rfl ?_
        refine s_callVi0 X (pc := 27) (r := rX0_depthAt a0 a6 x p3) (w := wX0 G ad a0 a1 a2 a3 a4 a5 a6 a7 a8) (n := 2) (st := []) (As := [.int x, .int p3]) (w2 := wX0 G ad a0 a1 a2 a3 a4 a5 a6 a7 a8) 0 (c_X0_depthAt l G ad a0 a1 a2 a3 a4 a5 a6 a7 a8 x p3 hT) gX0_suitsWithin_X0_depthAt rfl (by decide +kernel) ⟨Nat.le_of_ble_eq_true rfl, Nat.le_of_ble_eq_true rfl⟩ 0 rfl rfl rfl rfl (Nat.le_of_ble_eq_true rfl) (Nat.zero_le _) (Nat.zero_le _) dX0_suitsWithin_27 ?_
        refine s_istore X (pc := 30) (i := 7) (lv2 := [(7, .int (rX0_depthAt a0 a6 x p3)), (0, .ref (ad 0)), (1, .int p0), (2, .int p1), (3, .int p2), (4, .int p3), (5, .int (if (9 : Int32) < p2 then (9 : Int32) else p2)), (6, .int x)]) dX0_suitsWithin_30 (by decide) rfl ?_
        refine s_aload_n X (pc := 32) (x := (ad 0)) 1 dX0_suitsWithin_32 rfl ?_
        refine s_iload_n X (pc := 33) (x := p0) 2 dX0_suitsWithin_33 rfl ?_
        refine s_iload X (pc := 34) (x := rX0_depthAt a0 a6 x p3) 0 dX0_suitsWithin_34 rfl ?_
        refine s_callVi0 X (pc := 36) (r := rX0_isDeepEnough a2 p0 (rX0_depthAt a0 a6 x p3)) (w := wX0 G ad a0 a1 a2 a3 a4 a5 a6 a7 a8) (n := 2) (st := []) (As := [.int p0, .int (rX0_depthAt a0 a6 x p3)]) (w2 := wX0 G ad a0 a1 a2 a3 a4 a5 a6 a7 a8) 0 (c_X0_isDeepEnough l G ad a0 a1 a2 a3 a4 a5 a6 a7 a8 p0 (rX0_depthAt a0 a6 x p3) hc) gX0_suitsWithin_X0_isDeepEnough rfl (by decide +kernel) ⟨Nat.le_of_ble_eq_true rfl, Nat.le_of_ble_eq_true rfl⟩ 0 rfl rfl rfl rfl (Nat.le_of_ble_eq_true rfl) (Nat.zero_le _) (Nat.zero_le _) dX0_suitsWithin_36 ?_
        refine s_if_eq X (pc := 39) (tgt := 54) dX0_suitsWithin_39 (by decide) (fun c39 => ?_) (fun c39 => ?_)
        ·
          refine s_iinc X (pc := 54) (v := x + (1 : Int32)) (lv2 := [(6, .int (x + (1 : Int32))), (7, .int (rX0_depthAt a0 a6 x p3)), (0, .ref (ad 0)), (1, .int p0), (2, .int p1), (3, .int p2), (4, .int p3), (5, .int (if (9 : Int32) < p2 then (9 : Int32) else p2))]) 7 dX0_suitsWithin_54 rfl rfl (by decide) rfl ?_
          refine s_goto X (pc := 57) (tgt := 15) dX0_suitsWithin_57 (by decide) ?_
          refine s_perm (lv2 := [(0, .ref (ad 0)), (1, .int p0), (2, .int p1), (3, .int p2), (4, .int p3), (5, .int (if (9 : Int32) < p2 then (9 : Int32) else p2)), (6, .int (x + (1 : Int32)))]) [2, 3, 4, 5, 6, 7, 0] rfl ?_
          exact ih15 (x + (1 : Int32)) (by grind) (up_lt (b := 10) rfl (by grind) hm15) (hv15.trans (show aX0_suitsWithin_15 a0 a2 a4 a6 p0 p2 p3 (n15 + 1) x = aX0_suitsWithin_15 a0 a2 a4 a6 p0 p2 p3 n15 (x + (1 : Int32)) from by rw [aX0_suitsWithin_15]; exact ((if_neg c19).trans (if_pos c39))))
        ·
          refine s_aload_n X (pc := 42) (x := (ad 0)) 1 dX0_suitsWithin_42 rfl ?_
          refine s_iload_n X (pc := 43) (x := p0) 2 dX0_suitsWithin_43 rfl ?_
          refine s_iload X (pc := 44) (x := rX0_depthAt a0 a6 x p3) 0 dX0_suitsWithin_44 rfl ?_
          refine s_callVi0 X (pc := 46) (r := rX0_isTooDeep a2 a4 p0 (rX0_depthAt a0 a6 x p3)) (w := wX0 G ad a0 a1 a2 a3 a4 a5 a6 a7 a8) (n := 2) (st := []) (As := [.int p0, .int (rX0_depthAt a0 a6 x p3)]) (w2 := wX0 G ad a0 a1 a2 a3 a4 a5 a6 a7 a8) 0 (c_X0_isTooDeep l G ad a0 a1 a2 a3 a4 a5 a6 a7 a8 p0 (rX0_depthAt a0 a6 x p3) hc) gX0_suitsWithin_X0_isTooDeep rfl (by decide +kernel) ⟨Nat.le_of_ble_eq_true rfl, Nat.le_of_ble_eq_true rfl⟩ 0 rfl rfl rfl rfl (Nat.le_of_ble_eq_true rfl) (Nat.zero_le _) (Nat.zero_le _) dX0_suitsWithin_46 ?_
          refine s_if_ne X (pc := 49) (tgt := 54) dX0_suitsWithin_49 (by decide) (fun c49 => ?_) (fun c49 => ?_)
          ·
            refine s_iinc X (pc := 54) (v := x + (1 : Int32)) (lv2 := [(6, .int (x + (1 : Int32))), (7, .int (rX0_depthAt a0 a6 x p3)), (0, .ref (ad 0)), (1, .int p0), (2, .int p1), (3, .int p2), (4, .int p3), (5, .int (if (9 : Int32) < p2 then (9 : Int32) else p2))]) 7 dX0_suitsWithin_54 rfl rfl (by decide) rfl ?_
            refine s_goto X (pc := 57) (tgt := 15) dX0_suitsWithin_57 (by decide) ?_
            refine s_perm (lv2 := [(0, .ref (ad 0)), (1, .int p0), (2, .int p1), (3, .int p2), (4, .int p3), (5, .int (if (9 : Int32) < p2 then (9 : Int32) else p2)), (6, .int (x + (1 : Int32)))]) [2, 3, 4, 5, 6, 7, 0] rfl ?_
            exact ih15 (x + (1 : Int32)) (by grind) (up_lt (b := 10) rfl (by grind) hm15) (hv15.trans (show aX0_suitsWithin_15 a0 a2 a4 a6 p0 p2 p3 (n15 + 1) x = aX0_suitsWithin_15 a0 a2 a4 a6 p0 p2 p3 n15 (x + (1 : Int32)) from by rw [aX0_suitsWithin_15]; exact ((if_neg c19).trans ((if_neg c39).trans (if_neg c49)))))
          ·
            refine s_iconst X (pc := 52) (v := 1) dX0_suitsWithin_52 (by decide) ?_
            exact s_zret X (pc := 53) (v := (1 : Int32)) (Or.inr rfl) dX0_suitsWithin_53 (Eq.symm (show rX0_suitsWithin a0 a2 a4 a6 p0 p1 p2 p3 = (1 : Int32) from (hv15.trans (show aX0_suitsWithin_15 a0 a2 a4 a6 p0 p2 p3 (n15 + 1) x = (1 : Int32) from by rw [aX0_suitsWithin_15]; exact ((if_neg c19).trans ((if_neg c39).trans (if_pos c49))))))) rfl
  exact L15 11 (if p1 < (0 : Int32) then (0 : Int32) else p1) (by grind) (by have := Int32.le_iff_toInt_le.mp (show (0 : Int32) ≤ (if p1 < 0 then 0 else p1) by grind); have e0 : (0 : Int32).toInt = 0 := rfl; rw [e0] at this; omega) rfl
theorem baX0_suitsWithin_15 (a0 a2 a4 : Nat → Int32) (a6 p0 p2 p3 : Int32) : ∀ (nn : Nat) (z0 : _), aX0_suitsWithin_15 a0 a2 a4 a6 p0 p2 p3 nn z0 = 0 ∨ aX0_suitsWithin_15 a0 a2 a4 a6 p0 p2 p3 nn z0 = 1 := by
  intro nn
  induction nn with
  | zero =>
    intro z0
    unfold aX0_suitsWithin_15
    repeat' split
    all_goals first | exact Or.inl rfl | exact Or.inr rfl | exact bX0_isDeepEnough _ _ _ | exact bX0_isTooDeep _ _ _ _
  | succ nn ih =>
    intro z0
    unfold aX0_suitsWithin_15
    repeat' split
    all_goals first | exact Or.inl rfl | exact Or.inr rfl | exact ih _ | exact bX0_isDeepEnough _ _ _ | exact bX0_isTooDeep _ _ _ _
theorem bX0_suitsWithin (a0 a2 a4 : Nat → Int32) (a6 p0 p1 p2 p3 : Int32) : rX0_suitsWithin a0 a2 a4 a6 p0 p1 p2 p3 = 0 ∨ rX0_suitsWithin a0 a2 a4 a6 p0 p1 p2 p3 = 1 := by
  unfold rX0_suitsWithin
  repeat' split
  all_goals first | exact Or.inl rfl | exact Or.inr rfl | exact bX0_isDeepEnough _ _ _ | exact bX0_isTooDeep _ _ _ _ | exact baX0_suitsWithin_15 _ _ _ _ _ _ _ _ _

def aX0_hoursOpen_5 (a0 a2 a4 : Nat → Int32) (a6 p0 p1 : Int32) : Nat → Int32
  | 0 => (0 : Int32)
  | k5 + 1 => if (rX0_suitsWithin a0 a2 a4 a6 p0 (0 : Int32) (9 : Int32) (p1 + (nI k5))) = 0 then (aX0_hoursOpen_5 a0 a2 a4 a6 p0 p1 k5) else ((aX0_hoursOpen_5 a0 a2 a4 a6 p0 p1 k5) ||| ((1 : Int32) <<< ((nI k5) &&& 31)))
def rX0_hoursOpen (a0 a2 a4 : Nat → Int32) (a6 p0 p1 : Int32) : Int32 := (aX0_hoursOpen_5 a0 a2 a4 a6 p0 p1 12)
set_option maxRecDepth 100000 in
set_option maxHeartbeats 4000000 in
theorem c_X0_hoursOpen (l : Launch) (G : GT) (ad : Nat → Nat) (a0 a1 a2 a3 a4 a5 : Nat → Int32) (a6 a7 a8 p0 p1 : Int32) (hT : a6 ≤ 12) (hc : vp_in p0 5) : Ci l G yX0_hoursOpen wsX0_hoursOpen (rmL 2) [.ref (ad 0), .int p0, .int p1] (wX0 G ad a0 a1 a2 a3 a4 a5 a6 a7 a8) (rX0_hoursOpen a0 a2 a4 a6 p0 p1) (wX0 G ad a0 a1 a2 a3 a4 a5 a6 a7 a8) := by
  refine ci_start .int (by decide) rfl rfl (Nat.le_of_ble_eq_true rfl) ?_
  intro p e s m args below meth c A X
  refine s_perm (lv2 := [(0, .ref (ad 0)), (1, .int p0), (2, .int p1)]) [0, 1, 2] rfl ?_
  refine s_iconst X (pc := 0) (v := 0) dX0_hoursOpen_0 (by decide) ?_
  refine s_istore_n X (pc := 1) (i := 3) (lv2 := [(3, .int (0 : Int32)), (0, .ref (ad 0)), (1, .int p0), (2, .int p1)]) dX0_hoursOpen_1 rfl (by decide) rfl ?_
  refine s_iconst X (pc := 2) (v := 0) dX0_hoursOpen_2 (by decide) ?_
  refine s_istore X (pc := 3) (i := 4) (lv2 := [(4, .int (0 : Int32)), (3, .int (0 : Int32)), (0, .ref (ad 0)), (1, .int p0), (2, .int p1)]) dX0_hoursOpen_3 (by decide) rfl ?_
  refine s_perm (lv2 := [(0, .ref (ad 0)), (1, .int p0), (2, .int p1), (3, .int (0 : Int32)), (4, .int (0 : Int32))]) [2, 3, 4, 1, 0] rfl ?_
  have L5 : ∀ (n5 k5 : Nat), k5 + n5 = 12 → Sm p l e (rmL 2) s m args below meth c G A 5 0 0 (Qci below G A args s (rX0_hoursOpen a0 a2 a4 a6 p0 p1) (wX0 G ad a0 a1 a2 a3 a4 a5 a6 a7 a8)) 5 [(0, .ref (ad 0)), (1, .int p0), (2, .int p1), (3, .int (aX0_hoursOpen_5 a0 a2 a4 a6 p0 p1 k5)), (4, .int (nI k5))] [] (wX0 G ad a0 a1 a2 a3 a4 a5 a6 a7 a8) := by
    intro n5
    induction n5 with
    | zero =>
      intro k5 hk5
      have hK5 : k5 = 12 := by omega
      rw [hK5]
      have tk5 : (nI 12).toInt = ((12 : Nat) : Int) := nI_toInt (by omega)
      have eN5 : ((12 : Int32)).toInt = ((12 : Nat) : Int) := rfl
      refine s_iload X (pc := 5) (x := nI 12) 4 dX0_hoursOpen_5 rfl ?_
      refine s_bipush X (pc := 7) (v := 12) dX0_hoursOpen_7 (by decide) ?_
      refine s_icmp_ge X (pc := 9) (tgt := 40) dX0_hoursOpen_9 (by decide) (fun c9 => ?_) (fun c9 => ?_)
      ·
        refine s_iload_n X (pc := 40) (x := (aX0_hoursOpen_5 a0 a2 a4 a6 p0 p1 12)) 3 dX0_hoursOpen_40 rfl ?_
        exact s_iret X (pc := 41) (v := (aX0_hoursOpen_5 a0 a2 a4 a6 p0 p1 12)) dX0_hoursOpen_41 rfl rfl
      ·
        exact absurd ((t_le eN5 tk5).mpr (by omega)) c9
    | succ n5 ih5 =>
      intro k5 hk5
      have hlt5 : k5 < 12 := by omega
      have tk5 : (nI k5).toInt = ((k5 : Nat) : Int) := nI_toInt (by omega)
      have eN5 : ((12 : Int32)).toInt = ((12 : Nat) : Int) := rfl
      refine s_iload X (pc := 5) (x := nI k5) 4 dX0_hoursOpen_5 rfl ?_
      refine s_bipush X (pc := 7) (v := 12) dX0_hoursOpen_7 (by decide) ?_
      refine s_icmp_ge X (pc := 9) (tgt := 40) dX0_hoursOpen_9 (by decide) (fun c9 => ?_) (fun c9 => ?_)
      ·
        exact absurd ((t_le eN5 tk5).mp c9) (by omega)
      ·
        refine s_aload_n X (pc := 12) (x := (ad 0)) 0 dX0_hoursOpen_12 rfl ?_
        refine s_iload_n X (pc := 13) (x := p0) 1 dX0_hoursOpen_13 rfl ?_
        refine s_iconst X (pc := 14) (v := 0) dX0_hoursOpen_14 (by decide) ?_
        refine s_bipush X (pc := 15) (v := 9) dX0_hoursOpen_15 (by decide) ?_
        refine s_iload_n X (pc := 17) (x := p1) 2 dX0_hoursOpen_17 rfl ?_
        refine s_iload X (pc := 18) (x := nI k5) 4 dX0_hoursOpen_18 rfl ?_
        refine s_iadd X (pc := 20) dX0_hoursOpen_20 ?_
        refine s_callVi0 X (pc := 21) (r := rX0_suitsWithin a0 a2 a4 a6 p0 (0 : Int32) (9 : Int32) (p1 + (nI k5))) (w := wX0 G ad a0 a1 a2 a3 a4 a5 a6 a7 a8) (n := 4) (st := []) (As := [.int p0, .int (0 : Int32), .int (9 : Int32), .int (p1 + (nI k5))]) (w2 := wX0 G ad a0 a1 a2 a3 a4 a5 a6 a7 a8) 1 (c_X0_suitsWithin l G ad a0 a1 a2 a3 a4 a5 a6 a7 a8 p0 (0 : Int32) (9 : Int32) (p1 + (nI k5)) hT hc) gX0_hoursOpen_X0_suitsWithin rfl (by decide +kernel) ⟨Nat.le_of_ble_eq_true rfl, Nat.le_of_ble_eq_true rfl⟩ 0 rfl rfl rfl rfl (Nat.le_of_ble_eq_true rfl) (Nat.zero_le _) (Nat.zero_le _) dX0_hoursOpen_21 ?_
        refine s_if_eq X (pc := 24) (tgt := 34) dX0_hoursOpen_24 (by decide) (fun c24 => ?_) (fun c24 => ?_)
        ·
          refine s_iinc X (pc := 34) (v := nI (k5 + 1)) (lv2 := [(4, .int (nI (k5 + 1))), (0, .ref (ad 0)), (1, .int p0), (2, .int p1), (3, .int (aX0_hoursOpen_5 a0 a2 a4 a6 p0 p1 k5))]) 4 dX0_hoursOpen_34 rfl (nI_1 _) (by decide) rfl ?_
          refine s_goto X (pc := 37) (tgt := 5) dX0_hoursOpen_37 (by decide) ?_
          refine s_perm (lv2 := [(0, .ref (ad 0)), (1, .int p0), (2, .int p1), (3, .int (aX0_hoursOpen_5 a0 a2 a4 a6 p0 p1 k5)), (4, .int (nI (k5 + 1)))]) [1, 2, 3, 4, 0] rfl ?_
          have hb5 : (aX0_hoursOpen_5 a0 a2 a4 a6 p0 p1 (k5 + 1)) = (aX0_hoursOpen_5 a0 a2 a4 a6 p0 p1 k5) := by rw [aX0_hoursOpen_5]; exact (if_pos c24)
          refine s_cast (lv2 := [(0, .ref (ad 0)), (1, .int p0), (2, .int p1), (3, .int (aX0_hoursOpen_5 a0 a2 a4 a6 p0 p1 (k5 + 1))), (4, .int (nI (k5 + 1)))]) (w2 := wX0 G ad a0 a1 a2 a3 a4 a5 a6 a7 a8) (by first | (rw [hb5]; done) | rfl) (by first | (rw [hb5]; done) | rfl) ?_
          exact ih5 (k5 + 1) (by omega)
        ·
          refine s_iload_n X (pc := 27) (x := (aX0_hoursOpen_5 a0 a2 a4 a6 p0 p1 k5)) 3 dX0_hoursOpen_27 rfl ?_
          refine s_iconst X (pc := 28) (v := 1) dX0_hoursOpen_28 (by decide) ?_
          refine s_iload X (pc := 29) (x := nI k5) 4 dX0_hoursOpen_29 rfl ?_
          refine s_ishl X (pc := 31) dX0_hoursOpen_31 ?_
          refine s_ior X (pc := 32) dX0_hoursOpen_32 ?_
          refine s_istore_n X (pc := 33) (i := 3) (lv2 := [(3, .int ((aX0_hoursOpen_5 a0 a2 a4 a6 p0 p1 k5) ||| ((1 : Int32) <<< ((nI k5) &&& 31)))), (0, .ref (ad 0)), (1, .int p0), (2, .int p1), (4, .int (nI k5))]) dX0_hoursOpen_33 rfl (by decide) rfl ?_
          refine s_iinc X (pc := 34) (v := nI (k5 + 1)) (lv2 := [(4, .int (nI (k5 + 1))), (3, .int ((aX0_hoursOpen_5 a0 a2 a4 a6 p0 p1 k5) ||| ((1 : Int32) <<< ((nI k5) &&& 31)))), (0, .ref (ad 0)), (1, .int p0), (2, .int p1)]) 4 dX0_hoursOpen_34 rfl (nI_1 _) (by decide) rfl ?_
          refine s_goto X (pc := 37) (tgt := 5) dX0_hoursOpen_37 (by decide) ?_
          refine s_perm (lv2 := [(0, .ref (ad 0)), (1, .int p0), (2, .int p1), (3, .int ((aX0_hoursOpen_5 a0 a2 a4 a6 p0 p1 k5) ||| ((1 : Int32) <<< ((nI k5) &&& 31)))), (4, .int (nI (k5 + 1)))]) [2, 3, 4, 1, 0] rfl ?_
          have hb5 : (aX0_hoursOpen_5 a0 a2 a4 a6 p0 p1 (k5 + 1)) = (aX0_hoursOpen_5 a0 a2 a4 a6 p0 p1 k5) ||| ((1 : Int32) <<< ((nI k5) &&& 31)) := by rw [aX0_hoursOpen_5]; exact (if_neg c24)
          refine s_cast (lv2 := [(0, .ref (ad 0)), (1, .int p0), (2, .int p1), (3, .int (aX0_hoursOpen_5 a0 a2 a4 a6 p0 p1 (k5 + 1))), (4, .int (nI (k5 + 1)))]) (w2 := wX0 G ad a0 a1 a2 a3 a4 a5 a6 a7 a8) (by first | (rw [hb5]; done) | rfl) (by first | (rw [hb5]; done) | rfl) ?_
          exact ih5 (k5 + 1) (by omega)
  exact L5 12 0 (Nat.zero_add _)
