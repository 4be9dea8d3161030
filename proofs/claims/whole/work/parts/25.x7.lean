theorem iX7_hoursForAll_X7 : ∀ z ∈ wsX70, z ∈ wsX7_hoursForAll := fun z h => List.mem_cons_of_mem _ (List.mem_append_right _ h)
theorem kX7_hoursForAll_31 : Cond.fieldLink RX7 31 "BathingCourt$Planner" (TX7 8).2.1 (TX7 8).2.2.1 ∈ wsX7_hoursForAll := List.mem_of_getElem? (i := 1) rfl
def rX7_hoursForAll (a8 : Int32) : Int32 := if a8 = (13 : Int32) then (-1 : Int32) else a8
set_option maxRecDepth 100000 in
set_option maxHeartbeats 4000000 in
theorem c_X7_hoursForAll (l : Launch) (G : GT) (ad : Nat → Nat) (a0 a1 a2 a3 a4 a5 : Nat → Int32) (a6 a7 a8 : Int32) : Ci l G yX7_hoursForAll wsX7_hoursForAll (rmL 0) [.ref (ad 0)] (wX7 G ad a0 a1 a2 a3 a4 a5 a6 a7 a8) (rX7_hoursForAll a8) (wX7 G ad a0 a1 a2 a3 a4 a5 a6 a7 a8) := by
  refine ci_start .int (by decide) rfl rfl (Nat.le_of_ble_eq_true rfl) ?_
  intro p e s m args below meth c A X
  refine s_perm (lv2 := [(0, .ref (ad 0))]) [0] rfl ?_
  refine s_aload_n X (pc := 0) (x := (ad 0)) 0 dX7_hoursForAll_0 rfl ?_
  refine s_get X (pc := 1) (v := .int a8) iX7_hoursForAll_X7 0 rfl rfl 8 (by decide) kX7_hoursForAll_31 rfl rfl dX7_hoursForAll_1 ?_
  refine s_bipush X (pc := 4) (v := 13) dX7_hoursForAll_4 (by decide) ?_
  refine s_icmp_ne X (pc := 6) (tgt := 13) dX7_hoursForAll_6 (by decide) (fun c6 => ?_) (fun c6 => ?_)
  ·
    refine s_aload_n X (pc := 13) (x := (ad 0)) 0 dX7_hoursForAll_13 rfl ?_
    refine s_get X (pc := 14) (v := .int a8) iX7_hoursForAll_X7 0 rfl rfl 8 (by decide) kX7_hoursForAll_31 rfl rfl dX7_hoursForAll_14 ?_
    exact s_iret X (pc := 17) (v := a8) dX7_hoursForAll_17 (Eq.symm (show rX7_hoursForAll a8 = a8 from (by unfold rX7_hoursForAll; exact (if_neg c6)))) rfl
  ·
    refine s_iconst X (pc := 9) (v := -1) dX7_hoursForAll_9 (by decide) ?_
    refine s_goto X (pc := 10) (tgt := 17) dX7_hoursForAll_10 (by decide) ?_
    exact s_iret X (pc := 17) (v := (-1 : Int32)) dX7_hoursForAll_17 (Eq.symm (show rX7_hoursForAll a8 = (-1 : Int32) from (by unfold rX7_hoursForAll; exact (if_pos c6)))) rfl

theorem iX7_beginOf_X7 : ∀ z ∈ wsX70, z ∈ wsX7_beginOf := fun z h => List.mem_cons_of_mem _ (List.mem_append_right _ h)
theorem kX7_beginOf_25 : Cond.fieldLink RX7 25 "BathingCourt$Planner" (TX7 4).2.1 (TX7 4).2.2.1 ∈ wsX7_beginOf := List.mem_of_getElem? (i := 1) rfl
def rX7_beginOf (a4 : Nat → Int32) (p0 : Int32) : Int32 := a4 p0.toNatClampNeg
set_option maxRecDepth 100000 in
set_option maxHeartbeats 4000000 in
theorem c_X7_beginOf (l : Launch) (G : GT) (ad : Nat → Nat) (a0 a1 a2 a3 a4 a5 : Nat → Int32) (a6 a7 a8 p0 : Int32) (hc : vp_in p0 5) : Ci l G yX7_beginOf wsX7_beginOf (rmL 0) [.ref (ad 0), .int p0] (wX7 G ad a0 a1 a2 a3 a4 a5 a6 a7 a8) (rX7_beginOf a4 p0) (wX7 G ad a0 a1 a2 a3 a4 a5 a6 a7 a8) := by
  refine ci_start .int (by decide) rfl rfl (Nat.le_of_ble_eq_true rfl) ?_
  intro p e s m args below meth c A X
  refine s_perm (lv2 := [(0, .ref (ad 0)), (1, .int p0)]) [0, 1] rfl ?_
  refine s_aload_n X (pc := 0) (x := (ad 0)) 0 dX7_beginOf_0 rfl ?_
  refine s_get X (pc := 1) (v := .ref (ad 5)) iX7_beginOf_X7 0 rfl rfl 4 (by decide) kX7_beginOf_25 rfl rfl dX7_beginOf_1 ?_
  refine s_iload_n X (pc := 4) (x := p0) 1 dX7_beginOf_4 rfl ?_
  refine s_iald X (pc := 5) (n := 5) (f := a4) 5 rfl (by first | with_reducible assumption | exact vin (b := 5) rfl (by grind) (by grind)) dX7_beginOf_5 ?_
  exact s_iret X (pc := 6) (v := a4 p0.toNatClampNeg) dX7_beginOf_6 rfl rfl

theorem iX7_canBeSooner_X7 : ∀ z ∈ wsX70, z ∈ wsX7_canBeSooner := fun z h => List.mem_cons_of_mem _ (List.mem_append_right _ h)
theorem kX7_canBeSooner_31 : Cond.fieldLink RX7 31 "BathingCourt$Planner" (TX7 8).2.1 (TX7 8).2.2.1 ∈ wsX7_canBeSooner := List.mem_of_getElem? (i := 1) rfl
theorem kX7_canBeSooner_38 : Cond.fieldLink RX7 38 "BathingCourt$Planner" (TX7 7).2.1 (TX7 7).2.2.1 ∈ wsX7_canBeSooner := List.mem_of_getElem? (i := 2) rfl
def rX7_canBeSooner (a7 a8 p0 : Int32) : Int32 := if a8 ≤ p0 then (0 : Int32) else (if a8 ≤ a7 then (0 : Int32) else (1 : Int32))
set_option maxRecDepth 100000 in
set_option maxHeartbeats 4000000 in
theorem c_X7_canBeSooner (l : Launch) (G : GT) (ad : Nat → Nat) (a0 a1 a2 a3 a4 a5 : Nat → Int32) (a6 a7 a8 p0 : Int32) : Ci l G yX7_canBeSooner wsX7_canBeSooner (rmL 0) [.ref (ad 0), .int p0] (wX7 G ad a0 a1 a2 a3 a4 a5 a6 a7 a8) (rX7_canBeSooner a7 a8 p0) (wX7 G ad a0 a1 a2 a3 a4 a5 a6 a7 a8) := by
  refine ci_start .boolean (by decide) rfl rfl (Nat.le_of_ble_eq_true rfl) ?_
  intro p e s m args below meth c A X
  refine s_perm (lv2 := [(0, .ref (ad 0)), (1, .int p0)]) [0, 1] rfl ?_
  refine s_iload_n X (pc := 0) (x := p0) 1 dX7_canBeSooner_0 rfl ?_
  refine s_aload_n X (pc := 1) (x := (ad 0)) 0 dX7_canBeSooner_1 rfl ?_
  refine s_get X (pc := 2) (v := .int a8) iX7_canBeSooner_X7 0 rfl rfl 8 (by decide) kX7_canBeSooner_31 rfl rfl dX7_canBeSooner_2 ?_
  refine s_icmp_ge X (pc := 5) (tgt := 23) dX7_canBeSooner_5 (by decide) (fun c5 => ?_) (fun c5 => ?_)
  ·
    refine s_iconst X (pc := 23) (v := 0) dX7_canBeSooner_23 (by decide) ?_
    exact s_zret X (pc := 24) (v := (0 : Int32)) (Or.inl rfl) dX7_canBeSooner_24 (Eq.symm (show rX7_canBeSooner a7 a8 p0 = (0 : Int32) from (by unfold rX7_canBeSooner; exact (if_pos c5)))) rfl
  ·
    refine s_aload_n X (pc := 8) (x := (ad 0)) 0 dX7_canBeSooner_8 rfl ?_
    refine s_get X (pc := 9) (v := .int a7) iX7_canBeSooner_X7 0 rfl rfl 7 (by decide) kX7_canBeSooner_38 rfl rfl dX7_canBeSooner_9 ?_
    refine s_aload_n X (pc := 12) (x := (ad 0)) 0 dX7_canBeSooner_12 rfl ?_
    refine s_get X (pc := 13) (v := .int a8) iX7_canBeSooner_X7 0 rfl rfl 8 (by decide) kX7_canBeSooner_31 rfl rfl dX7_canBeSooner_13 ?_
    refine s_icmp_ge X (pc := 16) (tgt := 23) dX7_canBeSooner_16 (by decide) (fun c16 => ?_) (fun c16 => ?_)
    ·
      refine s_iconst X (pc := 23) (v := 0) dX7_canBeSooner_23 (by decide) ?_
      exact s_zret X (pc := 24) (v := (0 : Int32)) (Or.inl rfl) dX7_canBeSooner_24 (Eq.symm (show rX7_canBeSooner a7 a8 p0 = (0 : Int32) from (by unfold rX7_canBeSooner; exact ((if_neg c5).trans (if_pos c16))))) rfl
    ·
      refine s_iconst X (pc := 19) (v := 1) dX7_canBeSooner_19 (by decide) ?_
      refine s_goto X (pc := 20) (tgt := 24) dX7_canBeSooner_20 (by decide) ?_
      exact s_zret X (pc := 24) (v := (1 : Int32)) (Or.inr rfl) dX7_canBeSooner_24 (Eq.symm (show rX7_canBeSooner a7 a8 p0 = (1 : Int32) from (by unfold rX7_canBeSooner; exact ((if_neg c5).trans (if_neg c16))))) rfl
theorem bX7_canBeSooner (a7 a8 p0 : Int32) : rX7_canBeSooner a7 a8 p0 = 0 ∨ rX7_canBeSooner a7 a8 p0 = 1 := by
  unfold rX7_canBeSooner
  repeat' split
  all_goals first | exact Or.inl rfl | exact Or.inr rfl

theorem iX7_keepIfSooner_X7 : ∀ z ∈ wsX70, z ∈ wsX7_keepIfSooner := fun z h => List.mem_cons_of_mem _ (List.mem_append_right _ h)
theorem kX7_keepIfSooner_31 : Cond.fieldLink RX7 31 "BathingCourt$Planner" (TX7 8).2.1 (TX7 8).2.2.1 ∈ wsX7_keepIfSooner := List.mem_of_getElem? (i := 1) rfl
theorem kX7_keepIfSooner_22 : Cond.fieldLink RX7 22 "BathingCourt$Planner" (TX7 3).2.1 (TX7 3).2.2.1 ∈ wsX7_keepIfSooner := List.mem_of_getElem? (i := 2) rfl
theorem kX7_keepIfSooner_25 : Cond.fieldLink RX7 25 "BathingCourt$Planner" (TX7 4).2.1 (TX7 4).2.2.1 ∈ wsX7_keepIfSooner := List.mem_of_getElem? (i := 3) rfl
theorem kX7_keepIfSooner_m99 : Cond.methodLink RX7 99 arraycopyName ∈ wsX7_keepIfSooner := List.mem_of_getElem? (i := 4) rfl
theorem kX7_keepIfSooner_naac : Cond.native arraycopyName ∈ wsX7_keepIfSooner := List.mem_of_getElem? (i := 5) rfl
theorem kX7_keepIfSooner_stac : Cond.static arraycopyName ∈ wsX7_keepIfSooner := List.mem_of_getElem? (i := 6) rfl
theorem kX7_keepIfSooner_inSys : Cond.initialized "java/lang/System" ∈ wsX7_keepIfSooner := List.mem_of_getElem? (i := 7) rfl
def sX7_keepIfSooner_4 (a3 a4 : Nat → Int32) (a7 a8 p0 : Int32) : Nat → Int32 := if (rX7_canBeSooner a7 a8 p0) = 0 then a4 else (va_cpy a3 a4 (0 : Int32).toNatClampNeg (0 : Int32).toNatClampNeg (5 : Int32).toNatClampNeg)
def sX7_keepIfSooner_8 (a7 a8 p0 : Int32) : Int32 := if (rX7_canBeSooner a7 a8 p0) = 0 then a8 else p0
set_option maxRecDepth 100000 in
set_option maxHeartbeats 4000000 in
theorem c_X7_keepIfSooner (l : Launch) (G : GT) (ad : Nat → Nat) (a0 a1 a2 a3 a4 a5 : Nat → Int32) (a6 a7 a8 p0 : Int32) : Cv l G yX7_keepIfSooner wsX7_keepIfSooner (rmL 1) [.ref (ad 0), .int p0] (wX7 G ad a0 a1 a2 a3 a4 a5 a6 a7 a8) (wX7 G ad a0 a1 a2 a3 (sX7_keepIfSooner_4 a3 a4 a7 a8 p0) a5 a6 a7 (sX7_keepIfSooner_8 a7 a8 p0)) := by
  refine cv_start (by decide) rfl rfl (Nat.le_of_ble_eq_true rfl) ?_
  intro p e s m args below meth c A X
  refine s_perm (lv2 := [(0, .ref (ad 0)), (1, .int p0)]) [0, 1] rfl ?_
  refine s_aload_n X (pc := 0) (x := (ad 0)) 0 dX7_keepIfSooner_0 rfl ?_
  refine s_iload_n X (pc := 1) (x := p0) 1 dX7_keepIfSooner_1 rfl ?_
  refine s_callVi0 X (pc := 2) (r := rX7_canBeSooner a7 a8 p0) (w := wX7 G ad a0 a1 a2 a3 a4 a5 a6 a7 a8) (n := 1) (st := []) (As := [.int p0]) (w2 := wX7 G ad a0 a1 a2 a3 a4 a5 a6 a7 a8) 0 (c_X7_canBeSooner l G ad a0 a1 a2 a3 a4 a5 a6 a7 a8 p0) gX7_keepIfSooner_X7_canBeSooner rfl (by decide +kernel) ⟨Nat.le_of_ble_eq_true rfl, Nat.le_of_ble_eq_true rfl⟩ 0 rfl rfl rfl rfl (Nat.le_of_ble_eq_true rfl) (Nat.zero_le _) (Nat.zero_le _) dX7_keepIfSooner_2 ?_
  refine s_if_eq X (pc := 5) (tgt := 27) dX7_keepIfSooner_5 (by decide) (fun c5 => ?_) (fun c5 => ?_)
  ·
    exact s_vret X (pc := 27) dX7_keepIfSooner_27 (by rw [show sX7_keepIfSooner_4 a3 a4 a7 a8 p0 = a4 from (by unfold sX7_keepIfSooner_4; exact (if_pos c5)), show sX7_keepIfSooner_8 a7 a8 p0 = a8 from (by unfold sX7_keepIfSooner_8; exact (if_pos c5))])
  ·
    refine s_aload_n X (pc := 8) (x := (ad 0)) 0 dX7_keepIfSooner_8 rfl ?_
    refine s_iload_n X (pc := 9) (x := p0) 1 dX7_keepIfSooner_9 rfl ?_
    refine s_put X (pc := 10) (v := .int p0) (w2 := wX7 G ad a0 a1 a2 a3 a4 a5 a6 a7 p0) iX7_keepIfSooner_X7 0 rfl rfl 8 (by decide) kX7_keepIfSooner_31 rfl tyX7 tyX7_ok nmX7 rfl (ty := .int) (by decide +kernel) rfl rfl (Nat.le_of_ble_eq_true rfl) rfl dX7_keepIfSooner_10 ?_
    refine s_aload_n X (pc := 13) (x := (ad 0)) 0 dX7_keepIfSooner_13 rfl ?_
    refine s_get X (pc := 14) (v := .ref (ad 4)) iX7_keepIfSooner_X7 0 rfl rfl 3 (by decide) kX7_keepIfSooner_22 rfl rfl dX7_keepIfSooner_14 ?_
    refine s_iconst X (pc := 17) (v := 0) dX7_keepIfSooner_17 (by decide) ?_
    refine s_aload_n X (pc := 18) (x := (ad 0)) 0 dX7_keepIfSooner_18 rfl ?_
    refine s_get X (pc := 19) (v := .ref (ad 5)) iX7_keepIfSooner_X7 0 rfl rfl 4 (by decide) kX7_keepIfSooner_25 rfl rfl dX7_keepIfSooner_19 ?_
    refine s_iconst X (pc := 22) (v := 0) dX7_keepIfSooner_22 (by decide) ?_
    refine s_iconst X (pc := 23) (v := 5) dX7_keepIfSooner_23 (by decide) ?_
    refine s_copy X (pc := 24) (n0 := 5) (n1 := 5) (f := a3) (g := a4) (w2 := wX7 G ad a0 a1 a2 a3 (va_cpy a3 a4 (0 : Int32).toNatClampNeg (0 : Int32).toNatClampNeg (5 : Int32).toNatClampNeg) a5 a6 a7 p0) kX7_keepIfSooner_m99 kX7_keepIfSooner_naac kX7_keepIfSooner_stac kX7_keepIfSooner_inSys 4 5 rfl rfl (by decide) (by decide) (by decide) (by decide) (by decide) (Nat.le_of_ble_eq_true rfl) (Nat.le_of_ble_eq_true rfl) rfl dX7_keepIfSooner_24 ?_
    exact s_vret X (pc := 27) dX7_keepIfSooner_27 (by rw [show sX7_keepIfSooner_4 a3 a4 a7 a8 p0 = va_cpy a3 a4 (0 : Int32).toNatClampNeg (0 : Int32).toNatClampNeg (5 : Int32).toNatClampNeg from (by unfold sX7_keepIfSooner_4; exact (if_neg c5)), show sX7_keepIfSooner_8 a7 a8 p0 = p0 from (by unfold sX7_keepIfSooner_8; exact (if_neg c5))])

theorem iX7_fits_X7 : ∀ z ∈ wsX70, z ∈ wsX7_fits := fun z h => List.mem_cons_of_mem _ (List.mem_append_right _ h)
theorem kX7_fits_19 : Cond.fieldLink RX7 19 "BathingCourt$Planner" (TX7 2).2.1 (TX7 2).2.2.1 ∈ wsX7_fits := List.mem_of_getElem? (i := 1) rfl
theorem kX7_fits_15 : Cond.fieldLink RX7 15 "BathingCourt$Planner" (TX7 1).2.1 (TX7 1).2.2.1 ∈ wsX7_fits := List.mem_of_getElem? (i := 2) rfl
theorem kX7_fits_28 : Cond.fieldLink RX7 28 "BathingCourt$Planner" (TX7 5).2.1 (TX7 5).2.2.1 ∈ wsX7_fits := List.mem_of_getElem? (i := 3) rfl
theorem kX7_fits_35 : Cond.fieldLink RX7 35 "BathingCourt$Planner" (TX7 6).2.1 (TX7 6).2.2.1 ∈ wsX7_fits := List.mem_of_getElem? (i := 4) rfl
def aX7_fits_17 (a1 a5 : Nat → Int32) (a6 p0 p1 : Int32) : Nat → Int32 → Int32
  | 0, _ => 0
  | n17 + 1, x => if (p1 + (a1 p0.toNatClampNeg)) ≤ x then (1 : Int32) else (if (12 : Int32) ≤ x then (1 : Int32) else (if (a5 x.toNatClampNeg) < a6 then (aX7_fits_17 a1 a5 a6 p0 p1 n17 (x + (1 : Int32))) else (0 : Int32)))
def rX7_fits (a1 a2 a5 : Nat → Int32) (a6 p0 p1 : Int32) : Int32 := if (((a2 p0.toNatClampNeg) >>> (p1 &&& 31)) &&& (1 : Int32)) = 0 then (0 : Int32) else (aX7_fits_17 a1 a5 a6 p0 p1 13 p1)
set_option maxRecDepth 100000 in
set_option maxHeartbeats 4000000 in
theorem c_X7_fits (l : Launch) (G : GT) (ad : Nat → Nat) (a0 a1 a2 a3 a4 a5 : Nat → Int32) (a6 a7 a8 p0 p1 : Int32) (hc : vp_in p0 5) (hb : 0 ≤ p1) : Ci l G yX7_fits wsX7_fits (rmL 0) [.ref (ad 0), .int p0, .int p1] (wX7 G ad a0 a1 a2 a3 a4 a5 a6 a7 a8) (rX7_fits a1 a2 a5 a6 p0 p1) (wX7 G ad a0 a1 a2 a3 a4 a5 a6 a7 a8) := by
  refine ci_start .boolean (by decide) rfl rfl (Nat.le_of_ble_eq_true rfl) ?_
  intro p e s m args below meth c A X
  refine s_perm (lv2 := [(0, .ref (ad 0)), (1, .int p0), (2, .int p1)]) [0, 1, 2] rfl ?_
  refine s_aload_n X (pc := 0) (x := (ad 0)) 0 dX7_fits_0 rfl ?_
  refine s_get X (pc := 1) (v := .ref (ad 3)) iX7_fits_X7 0 rfl rfl 2 (by decide) kX7_fits_19 rfl rfl dX7_fits_1 ?_
  refine s_iload_n X (pc := 4) (x := p0) 1 dX7_fits_4 rfl ?_
  refine s_iald X (pc := 5) (n := 5) (f := a2) 3 rfl (by first | with_reducible assumption | exact vin (b := 5) rfl (by grind) (by grind)) dX7_fits_5 ?_
  refine s_iload_n X (pc := 6) (x := p1) 2 dX7_fits_6 rfl ?_
  refine s_ishr X (pc := 7) dX7_fits_7 ?_
  refine s_iconst X (pc := 8) (v := 1) dX7_fits_8 (by decide) ?_
  refine s_iand X (pc := 9) dX7_fits_9 ?_
  refine s_if_ne X (pc := 10) (tgt := 15) dX7_fits_10 (by decide) (fun c10 => ?_) (fun c10 => ?_)
  ·
    refine s_iload_n X (pc := 15) (x := p1) 2 dX7_fits_15 rfl ?_
    refine s_istore_n X (pc := 16) (i := 3) (lv2 := [(3, .int p1), (0, .ref (ad 0)), (1, .int p0), (2, .int p1)]) dX7_fits_16 rfl (by decide) rfl ?_
    refine s_perm (lv2 := [(0, .ref (ad 0)), (1, .int p0), (2, .int p1), (3, .int p1)]) [1, 2, 3, 0] rfl ?_
    have L17 : ∀ (n17 : Nat) (x : Int32), (0 ≤ x) → ((12 : Nat) - x.toInt).toNat < n17 → rX7_fits a1 a2 a5 a6 p0 p1 = aX7_fits_17 a1 a5 a6 p0 p1 n17 x → Sm p l e (rmL 0) s m args below meth c G A 4 0 0 (Qci below G A args s (rX7_fits a1 a2 a5 a6 p0 p1) (wX7 G ad a0 a1 a2 a3 a4 a5 a6 a7 a8)) 17 [(0, .ref (ad 0)), (1, .int p0), (2, .int p1), (3, .int x)] [] (wX7 G ad a0 a1 a2 a3 a4 a5 a6 a7 a8) := by
      intro n17
      induction n17 with
      | zero => intro x hx hm17 hv17; exact absurd hm17 (Nat.not_lt_zero _)
      | succ n17 ih17 =>
        intro x hx hm17 hv17
        refine s_iload_n X (pc := 17) (x := x) 3 dX7_fits_17 rfl ?_
        refine s_iload_n X (pc := 18) (x := p1) 2 dX7_fits_18 rfl ?_
        refine s_aload_n X (pc := 19) (x := (ad 0)) 0 dX7_fits_19 rfl ?_
        refine s_get X (pc := 20) (v := .ref (ad 2)) iX7_fits_X7 0 rfl rfl 1 (by decide) kX7_fits_15 rfl rfl dX7_fits_20 ?_
        refine s_iload_n X (pc := 23) (x := p0) 1 dX7_fits_23 rfl ?_
        refine s_iald X (pc := 24) (n := 5) (f := a1) 2 rfl (by first | with_reducible assumption | exact vin (b := 5) rfl (by grind) (by grind)) dX7_fits_24 ?_
        refine s_iadd X (pc := 25) dX7_fits_25 ?_
        refine s_icmp_ge X (pc := 26) (tgt := 56) dX7_fits_26 (by decide) (fun c26 => ?_) (fun c26 => ?_)
        ·
          refine s_iconst X (pc := 56) (v := 1) dX7_fits_56 (by decide) ?_
          exact s_zret X (pc := 57) (v := (1 : Int32)) (Or.inr rfl) dX7_fits_57 (Eq.symm (show rX7_fits a1 a2 a5 a6 p0 p1 = (1 : Int32) from (hv17.trans (show aX7_fits_17 a1 a5 a6 p0 p1 (n17 + 1) x = (1 : Int32) from by rw [aX7_fits_17]; exact (if_pos c26))))) rfl
        ·
          refine s_iload_n X (pc := 29) (x := x) 3 dX7_fits_29 rfl ?_
          refine s_bipush X (pc := 30) (v := 12) dX7_fits_30 (by decide) ?_
          refine s_icmp_ge X (pc := 32) (tgt := 56) dX7_fits_32 (by decide) (fun c32 => ?_) (fun c32 => ?_)
          ·
            refine s_iconst X (pc := 56) (v := 1) dX7_fits_56 (by decide) ?_
            exact s_zret X (pc := 57) (v := (1 : Int32)) (Or.inr rfl) dX7_fits_57 (Eq.symm (show rX7_fits a1 a2 a5 a6 p0 p1 = (1 : Int32) from (hv17.trans (show aX7_fits_17 a1 a5 a6 p0 p1 (n17 + 1) x = (1 : Int32) from by rw [aX7_fits_17]; exact ((if_neg c26).trans (if_pos c32)))))) rfl
          ·
            refine s_aload_n X (pc := 35) (x := (ad 0)) 0 dX7_fits_35 rfl ?_
            refine s_get X (pc := 36) (v := .ref (ad 6)) iX7_fits_X7 0 rfl rfl 5 (by decide) kX7_fits_28 rfl rfl dX7_fits_36 ?_
            refine s_iload_n X (pc := 39) (x := x) 3 dX7_fits_39 rfl ?_
            refine s_iald X (pc := 40) (n := 12) (f := a5) 6 rfl (by first | with_reducible assumption | exact vin (b := 12) rfl (by grind) (by grind)) dX7_fits_40 ?_
            refine s_aload_n X (pc := 41) (x := (ad 0)) 0 dX7_fits_41 rfl ?_
            refine s_get X (pc := 42) (v := .int a6) iX7_fits_X7 0 rfl rfl 6 (by decide) kX7_fits_35 rfl rfl dX7_fits_42 ?_
            refine s_icmp_lt X (pc := 45) (tgt := 50) dX7_fits_45 (by decide) (fun c45 => ?_) (fun c45 => ?_)
            ·
              refine s_iinc X (pc := 50) (v := x + (1 : Int32)) (lv2 := [(3, .int (x + (1 : Int32))), (0, .ref (ad 0)), (1, .int p0), (2, .int p1)]) 3 dX7_fits_50 rfl rfl (by decide) rfl ?_
              refine s_goto X (pc := 53) (tgt := 17) dX7_fits_53 (by decide) ?_
              refine s_perm (lv2 := [(0, .ref (ad 0)), (1, .int p0), (2, .int p1), (3, .int (x + (1 : Int32)))]) [1, 2, 3, 0] rfl ?_
              exact ih17 (x + (1 : Int32)) (by grind) (up_lt (b := 12) rfl (by grind) hm17) (hv17.trans (show aX7_fits_17 a1 a5 a6 p0 p1 (n17 + 1) x = aX7_fits_17 a1 a5 a6 p0 p1 n17 (x + (1 : Int32)) from by rw [aX7_fits_17]; exact ((if_neg c26).trans ((if_neg c32).trans (if_pos c45)))))
            ·
              refine s_iconst X (pc := 48) (v := 0) dX7_fits_48 (by decide) ?_
              exact s_zret X (pc := 49) (v := (0 : Int32)) (Or.inl rfl) dX7_fits_49 (Eq.symm (show rX7_fits a1 a2 a5 a6 p0 p1 = (0 : Int32) from (hv17.trans (show aX7_fits_17 a1 a5 a6 p0 p1 (n17 + 1) x = (0 : Int32) from by rw [aX7_fits_17]; exact ((if_neg c26).trans ((if_neg c32).trans (if_neg c45))))))) rfl
    exact L17 13 p1 hb (m_lt hb) (by unfold rX7_fits; exact (if_neg c10))
  ·
    refine s_iconst X (pc := 13) (v := 0) dX7_fits_13 (by decide) ?_
    exact s_zret X (pc := 14) (v := (0 : Int32)) (Or.inl rfl) dX7_fits_14 (Eq.symm (show rX7_fits a1 a2 a5 a6 p0 p1 = (0 : Int32) from (by unfold rX7_fits; exact (if_pos c10)))) rfl
theorem baX7_fits_17 (a1 a5 : Nat → Int32) (a6 p0 p1 : Int32) : ∀ (nn : Nat) (z0 : _), aX7_fits_17 a1 a5 a6 p0 p1 nn z0 = 0 ∨ aX7_fits_17 a1 a5 a6 p0 p1 nn z0 = 1 := by
  intro nn
  induction nn with
  | zero =>
    intro z0
    unfold aX7_fits_17
    repeat' split
    all_goals first | exact Or.inl rfl | exact Or.inr rfl
  | succ nn ih =>
    intro z0
    unfold aX7_fits_17
    repeat' split
    all_goals first | exact Or.inl rfl | exact Or.inr rfl | exact ih _
theorem bX7_fits (a1 a2 a5 : Nat → Int32) (a6 p0 p1 : Int32) : rX7_fits a1 a2 a5 a6 p0 p1 = 0 ∨ rX7_fits a1 a2 a5 a6 p0 p1 = 1 := by
  unfold rX7_fits
  repeat' split
  all_goals first | exact Or.inl rfl | exact Or.inr rfl | exact baX7_fits_17 _ _ _ _ _ _ _

theorem iX7_occupy_X7 : ∀ z ∈ wsX70, z ∈ wsX7_occupy := fun z h => List.mem_cons_of_mem _ (List.mem_append_right _ h)
theorem kX7_occupy_15 : Cond.fieldLink RX7 15 "BathingCourt$Planner" (TX7 1).2.1 (TX7 1).2.2.1 ∈ wsX7_occupy := List.mem_of_getElem? (i := 1) rfl
theorem kX7_occupy_28 : Cond.fieldLink RX7 28 "BathingCourt$Planner" (TX7 5).2.1 (TX7 5).2.2.1 ∈ wsX7_occupy := List.mem_of_getElem? (i := 2) rfl
def aX7_occupy_3 (a1 : Nat → Int32) (p0 p1 p2 : Int32) : Nat → Int32 → (Nat → Int32) → (Nat → Int32)
  | 0, _, y => y
  | n3 + 1, x, y => if (p1 + (a1 p0.toNatClampNeg)) ≤ x then y else (if (12 : Int32) ≤ x then y else (aX7_occupy_3 a1 p0 p1 p2 n3 (x + (1 : Int32)) (upd y x.toNatClampNeg ((y x.toNatClampNeg) + p2))))
def sX7_occupy_5 (a1 a5 : Nat → Int32) (p0 p1 p2 : Int32) : Nat → Int32 := aX7_occupy_3 a1 p0 p1 p2 13 p1 a5
set_option maxRecDepth 100000 in
set_option maxHeartbeats 4000000 in
theorem c_X7_occupy (l : Launch) (G : GT) (ad : Nat → Nat) (a0 a1 a2 a3 a4 a5 : Nat → Int32) (a6 a7 a8 p0 p1 p2 : Int32) (hc : vp_in p0 5) (hb : 0 ≤ p1) : Cv l G yX7_occupy wsX7_occupy (rmL 0) [.ref (ad 0), .int p0, .int p1, .int p2] (wX7 G ad a0 a1 a2 a3 a4 a5 a6 a7 a8) (wX7 G ad a0 a1 a2 a3 a4 (sX7_occupy_5 a1 a5 p0 p1 p2) a6 a7 a8) := by
  refine cv_start (by decide) rfl rfl (Nat.le_of_ble_eq_true rfl) ?_
  intro p e s m args below meth c A X
  refine s_perm (lv2 := [(0, .ref (ad 0)), (1, .int p0), (2, .int p1), (3, .int p2)]) [0, 1, 2, 3] rfl ?_
  refine s_iload_n X (pc := 0) (x := p1) 2 dX7_occupy_0 rfl ?_
  refine s_istore X (pc := 1) (i := 4) (lv2 := [(4, .int p1), (0, .ref (ad 0)), (1, .int p0), (2, .int p1), (3, .int p2)]) dX7_occupy_1 (by decide) rfl ?_
  refine s_perm (lv2 := [(0, .ref (ad 0)), (1, .int p0), (2, .int p1), (3, .int p2), (4, .int p1)]) [1, 2, 3, 4, 0] rfl ?_
  have L3 : ∀ (n3 : Nat) (x : Int32) (y : (Nat → Int32)), (0 ≤ x) → ((12 : Nat) - x.toInt).toNat < n3 → sX7_occupy_5 a1 a5 p0 p1 p2 = aX7_occupy_3 a1 p0 p1 p2 n3 x y → Sm p l e (rmL 0) s m args below meth c G A 5 0 0 (Qcv below G A args s (wX7 G ad a0 a1 a2 a3 a4 (sX7_occupy_5 a1 a5 p0 p1 p2) a6 a7 a8)) 3 [(0, .ref (ad 0)), (1, .int p0), (2, .int p1), (3, .int p2), (4, .int x)] [] (wX7 G ad a0 a1 a2 a3 a4 y a6 a7 a8) := by
    intro n3
    induction n3 with
    | zero => intro x y hx hm3 hv3; exact absurd hm3 (Nat.not_lt_zero _)
    | succ n3 ih3 =>
      intro x y hx hm3 hv3
      refine s_iload X (pc := 3) (x := x) 4 dX7_occupy_3 rfl ?_
      refine s_iload_n X (pc := 5) (x := p1) 2 dX7_occupy_5 rfl ?_
      refine s_aload_n X (pc := 6) (x := (ad 0)) 0 dX7_occupy_6 rfl ?_
      refine s_get X (pc := 7) (v := .ref (ad 2)) iX7_occupy_X7 0 rfl rfl 1 (by decide) kX7_occupy_15 rfl rfl dX7_occupy_7 ?_
      refine s_iload_n X (pc := 10) (x := p0) 1 dX7_occupy_10 rfl ?_
      refine s_iald X (pc := 11) (n := 5) (f := a1) 2 rfl (by first | with_reducible assumption | exact vin (b := 5) rfl (by grind) (by grind)) dX7_occupy_11 ?_
      refine s_iadd X (pc := 12) dX7_occupy_12 ?_
      refine s_icmp_ge X (pc := 13) (tgt := 40) dX7_occupy_13 (by decide) (fun c13 => ?_) (fun c13 => ?_)
      ·
        exact s_vret X (pc := 40) dX7_occupy_40 (by rw [show sX7_occupy_5 a1 a5 p0 p1 p2 = y from (hv3.trans (show aX7_occupy_3 a1 p0 p1 p2 (n3 + 1) x y = y from by rw [aX7_occupy_3]; exact (if_pos c13)))])
      ·
        refine s_iload X (pc := 16) (x := x) 4 dX7_occupy_16 rfl ?_
        refine s_bipush X (pc := 18) (v := 12) dX7_occupy_18 (by decide) ?_
        refine s_icmp_ge X (pc := 20) (tgt := 40) dX7_occupy_20 (by decide) (fun c20 => ?_) (fun c20 => ?_)
        ·
          exact s_vret X (pc := 40) dX7_occupy_40 (by rw [show sX7_occupy_5 a1 a5 p0 p1 p2 = y from (hv3.trans (show aX7_occupy_3 a1 p0 p1 p2 (n3 + 1) x y = y from by rw [aX7_occupy_3]; exact ((if_neg c13).trans (if_pos c20))))])
        ·
          refine s_aload_n X (pc := 23) (x := (ad 0)) 0 dX7_occupy_23 rfl ?_
          refine s_get X (pc := 24) (v := .ref (ad 6)) iX7_occupy_X7 0 rfl rfl 5 (by decide) kX7_occupy_28 rfl rfl dX7_occupy_24 ?_
          refine s_iload X (pc := 27) (x := x) 4 dX7_occupy_27 rfl ?_
          refine s_dup2 X (pc := 29) dX7_occupy_29 rfl rfl ?_
          refine s_iald X (pc := 30) (n := 12) (f := y) 6 rfl (by first | with_reducible assumption | exact vin (b := 12) rfl (by grind) (by grind)) dX7_occupy_30 ?_
          refine s_iload_n X (pc := 31) (x := p2) 3 dX7_occupy_31 rfl ?_
          refine s_iadd X (pc := 32) dX7_occupy_32 ?_
          refine s_iast X (pc := 33) (n := 12) (f := y) (w2 := wX7 G ad a0 a1 a2 a3 a4 (upd y x.toNatClampNeg ((y x.toNatClampNeg) + p2)) a6 a7 a8) 6 rfl (by first | with_reducible assumption | exact vin (b := 12) rfl (by grind) (by grind)) rfl dX7_occupy_33 ?_
          refine s_iinc X (pc := 34) (v := x + (1 : Int32)) (lv2 := [(4, .int (x + (1 : Int32))), (0, .ref (ad 0)), (1, .int p0), (2, .int p1), (3, .int p2)]) 4 dX7_occupy_34 rfl rfl (by decide) rfl ?_
          refine s_goto X (pc := 37) (tgt := 3) dX7_occupy_37 (by decide) ?_
          refine s_perm (lv2 := [(0, .ref (ad 0)), (1, .int p0), (2, .int p1), (3, .int p2), (4, .int (x + (1 : Int32)))]) [1, 2, 3, 4, 0] rfl ?_
          exact ih3 (x + (1 : Int32)) (upd y x.toNatClampNeg ((y x.toNatClampNeg) + p2)) (by grind) (up_lt (b := 12) rfl (by grind) hm3) (hv3.trans (show aX7_occupy_3 a1 p0 p1 p2 (n3 + 1) x y = aX7_occupy_3 a1 p0 p1 p2 n3 (x + (1 : Int32)) (upd y x.toNatClampNeg ((y x.toNatClampNeg) + p2)) from by rw [aX7_occupy_3]; exact ((if_neg c13).trans (if_neg c20))))
  exact L3 13 p1 a5 hb (m_lt hb) rfl

abbrev PT : Type := (Nat → Int32) × (Nat → Int32) × (Nat → Int32) × Int32
/-- the loop over the hours in which a case may begin: begins, bestBegins, busyHuts, bestEnd -/
def lpX7 (a1 a2 : Nat → Int32) (a6 a7 : Int32) (rc : Int32 → PT → PT) (p0 p1 : Int32) : Nat → Int32 → (Nat → Int32) → (Nat → Int32) → (Nat → Int32) → Int32 → PT
  | 0, _, t3, t4, t5, t8 => (t3, t4, t5, t8)
  | n + 1, b, t3, t4, t5, t8 => if (12 : Int32) ≤ b then (t3, t4, t5, t8) else if (rX7_canBeSooner a7 t8 (if p1 < (b + (a1 p0.toNatClampNeg)) then (b + (a1 p0.toNatClampNeg)) else p1)) = 0 then (t3, t4, t5, t8) else if (rX7_fits a1 a2 t5 a6 p0 b) = 0 then lpX7 a1 a2 a6 a7 rc p0 p1 n (b + (1 : Int32)) t3 t4 t5 t8 else lpX7 a1 a2 a6 a7 rc p0 p1 n (b + (1 : Int32)) (rc (if p1 < (b + (a1 p0.toNatClampNeg)) then (b + (a1 p0.toNatClampNeg)) else p1) (upd t3 p0.toNatClampNeg b, t4, sX7_occupy_5 a1 t5 p0 b (1 : Int32), t8)).1 (rc (if p1 < (b + (a1 p0.toNatClampNeg)) then (b + (a1 p0.toNatClampNeg)) else p1) (upd t3 p0.toNatClampNeg b, t4, sX7_occupy_5 a1 t5 p0 b (1 : Int32), t8)).2.1 (sX7_occupy_5 a1 (rc (if p1 < (b + (a1 p0.toNatClampNeg)) then (b + (a1 p0.toNatClampNeg)) else p1) (upd t3 p0.toNatClampNeg b, t4, sX7_occupy_5 a1 t5 p0 b (1 : Int32), t8)).2.2.1 p0 b (-1 : Int32)) (rc (if p1 < (b + (a1 p0.toNatClampNeg)) then (b + (a1 p0.toNatClampNeg)) else p1) (upd t3 p0.toNatClampNeg b, t4, sX7_occupy_5 a1 t5 p0 b (1 : Int32), t8)).2.2.2
/-- placeFrom, d levels above the last -/
def pfX7 (a0 a1 a2 : Nat → Int32) (a6 a7 : Int32) : Nat → Int32 → Int32 → PT → PT
  | 0, _, p1, t => (t.1, sX7_keepIfSooner_4 t.1 t.2.1 a7 t.2.2.2 p1, t.2.2.1, sX7_keepIfSooner_8 a7 t.2.2.2 p1)
  | d + 1, p0, p1, t => if (a0 p0.toNatClampNeg) = 0 then pfX7 a0 a1 a2 a6 a7 d (p0 + (1 : Int32)) p1 t else lpX7 a1 a2 a6 a7 (pfX7 a0 a1 a2 a6 a7 d (p0 + (1 : Int32))) p0 p1 13 0 t.1 t.2.1 t.2.2.1 t.2.2.2

set_option maxRecDepth 100000 in
set_option maxHeartbeats 4000000 in
theorem c_X7_placeFrom_at5 (l : Launch) (G : GT) (ad : Nat → Nat) (a0 a1 a2 a3 a4 a5 : Nat → Int32) (a6 a7 a8 p0 p1 : Int32) (hp0 : p0 = 5) : Cv l G yX7_placeFrom wsX7_placeFrom (rmL 2) [.ref (ad 0), .int p0, .int p1] (wX7 G ad a0 a1 a2 a3 a4 a5 a6 a7 a8) (wX7 G ad a0 a1 a2 ((pfX7 a0 a1 a2 a6 a7 0 p0 p1 (a3, a4, a5, a8)).1) ((pfX7 a0 a1 a2 a6 a7 0 p0 p1 (a3, a4, a5, a8)).2.1) ((pfX7 a0 a1 a2 a6 a7 0 p0 p1 (a3, a4, a5, a8)).2.2.1) a6 a7 ((pfX7 a0 a1 a2 a6 a7 0 p0 p1 (a3, a4, a5, a8)).2.2.2)) := by
  refine cv_start (by decide) rfl rfl (Nat.le_of_ble_eq_true rfl) ?_
  intro p e s m args below meth c A X
  refine s_perm (lv2 := [(0, .ref (ad 0)), (1, .int p0), (2, .int p1)]) [0, 1, 2] rfl ?_
  refine s_iload_n X (pc := 0) (x := p0) 1 dX7_placeFrom_0 rfl ?_
  refine s_if_lt X (pc := 1) (tgt := 9) dX7_placeFrom_1 (by decide) (fun c1 => ?_) (fun c1 => ?_)
  ·
    exact absurd c1 (by rw [hp0]; decide)
  ·
    refine s_iload_n X (pc := 4) (x := p0) 1 dX7_placeFrom_4 rfl ?_
    refine s_iconst X (pc := 5) (v := 5) dX7_placeFrom_5 (by decide) ?_
    refine s_icmp_lt X (pc := 6) (tgt := 15) dX7_placeFrom_6 (by decide) (fun c6 => ?_) (fun c6 => ?_)
    ·
      exact absurd c6 (by rw [hp0]; decide)
    ·
      refine s_aload_n X (pc := 9) (x := (ad 0)) 0 dX7_placeFrom_9 rfl ?_
      refine s_iload_n X (pc := 10) (x := p1) 2 dX7_placeFrom_10 rfl ?_
      refine s_callVv0 X (pc := 11) (w := wX7 G ad a0 a1 a2 a3 a4 a5 a6 a7 a8) (n := 1) (st := []) (As := [.int p1]) (w2 := wX7 G ad a0 a1 a2 a3 (sX7_keepIfSooner_4 a3 a4 a7 a8 p1) a5 a6 a7 (sX7_keepIfSooner_8 a7 a8 p1)) 1 (c_X7_keepIfSooner l G ad a0 a1 a2 a3 a4 a5 a6 a7 a8 p1) gX7_placeFrom_X7_keepIfSooner rfl (by decide +kernel) ⟨Nat.le_of_ble_eq_true rfl, Nat.le_of_ble_eq_true rfl⟩ 0 rfl rfl rfl rfl (Nat.le_of_ble_eq_true rfl) (Nat.zero_le _) (Nat.zero_le _) dX7_placeFrom_11 ?_
      exact s_vret X (pc := 14) dX7_placeFrom_14 (by rw [show (pfX7 a0 a1 a2 a6 a7 0 p0 p1 (a3, a4, a5, a8)).1 = a3 from rfl, show (pfX7 a0 a1 a2 a6 a7 0 p0 p1 (a3, a4, a5, a8)).2.1 = sX7_keepIfSooner_4 a3 a4 a7 a8 p1 from rfl, show (pfX7 a0 a1 a2 a6 a7 0 p0 p1 (a3, a4, a5, a8)).2.2.1 = a5 from rfl, show (pfX7 a0 a1 a2 a6 a7 0 p0 p1 (a3, a4, a5, a8)).2.2.2 = sX7_keepIfSooner_8 a7 a8 p1 from rfl])

theorem iX7_placeFrom_at4_X7 : ∀ z ∈ wsX70, z ∈ wsX7_placeFrom := fun z h => List.mem_cons_of_mem _ (List.mem_append_right _ h)
theorem kX7_placeFrom_at4_9 : Cond.fieldLink RX7 9 "BathingCourt$Planner" (TX7 0).2.1 (TX7 0).2.2.1 ∈ wsX7_placeFrom := List.mem_of_getElem? (i := 1) rfl
theorem kX7_placeFrom_at4_15 : Cond.fieldLink RX7 15 "BathingCourt$Planner" (TX7 1).2.1 (TX7 1).2.2.1 ∈ wsX7_placeFrom := List.mem_of_getElem? (i := 2) rfl
theorem kX7_placeFrom_at4_m70 : Cond.methodLink RX7 70 Lib.Math.max.name ∈ wsX7_placeFrom := List.mem_of_getElem? (i := 3) rfl
theorem kX7_placeFrom_at4_stmax : Cond.static Lib.Math.max.name ∈ wsX7_placeFrom := List.mem_of_getElem? (i := 4) rfl
theorem kX7_placeFrom_at4_inMath : Cond.initialized "java/lang/Math" ∈ wsX7_placeFrom := List.mem_of_getElem? (i := 5) rfl
theorem kX7_placeFrom_at4_comax : Cond.code Lib.Math.max.name Lib.Math.max.code 2 (some .int) ∈ wsX7_placeFrom := List.mem_of_getElem? (i := 6) rfl
theorem kX7_placeFrom_at4_22 : Cond.fieldLink RX7 22 "BathingCourt$Planner" (TX7 3).2.1 (TX7 3).2.2.1 ∈ wsX7_placeFrom := List.mem_of_getElem? (i := 7) rfl
set_option maxRecDepth 100000 in
set_option maxHeartbeats 4000000 in
theorem c_X7_placeFrom_at4 (l : Launch) (G : GT) (ad : Nat → Nat) (a0 a1 a2 a3 a4 a5 : Nat → Int32) (a6 a7 a8 p0 p1 : Int32) (hp0 : p0 = 4) : Cv l G yX7_placeFrom wsX7_placeFrom (rmL 3) [.ref (ad 0), .int p0, .int p1] (wX7 G ad a0 a1 a2 a3 a4 a5 a6 a7 a8) (wX7 G ad a0 a1 a2 ((pfX7 a0 a1 a2 a6 a7 1 p0 p1 (a3, a4, a5, a8)).1) ((pfX7 a0 a1 a2 a6 a7 1 p0 p1 (a3, a4, a5, a8)).2.1) ((pfX7 a0 a1 a2 a6 a7 1 p0 p1 (a3, a4, a5, a8)).2.2.1) a6 a7 ((pfX7 a0 a1 a2 a6 a7 1 p0 p1 (a3, a4, a5, a8)).2.2.2)) := by
  refine cv_start (by decide) rfl rfl (Nat.le_of_ble_eq_true rfl) ?_
  intro p e s m args below meth c A X
  have hc : vp_in p0 5 := by rw [hp0]; exact vp_in_iff.mpr (by decide)
  refine s_perm (lv2 := [(0, .ref (ad 0)), (1, .int p0), (2, .int p1)]) [0, 1, 2] rfl ?_
  refine s_iload_n X (pc := 0) (x := p0) 1 dX7_placeFrom_0 rfl ?_
  refine s_if_lt X (pc := 1) (tgt := 9) dX7_placeFrom_1 (by decide) (fun c1 => ?_) (fun c1 => ?_)
  ·
    exact absurd c1 (by rw [hp0]; decide)
  ·
    refine s_iload_n X (pc := 4) (x := p0) 1 dX7_placeFrom_4 rfl ?_
    refine s_iconst X (pc := 5) (v := 5) dX7_placeFrom_5 (by decide) ?_
    refine s_icmp_lt X (pc := 6) (tgt := 15) dX7_placeFrom_6 (by decide) (fun c6 => ?_) (fun c6 => ?_)
    ·
      refine s_aload_n X (pc := 15) (x := (ad 0)) 0 dX7_placeFrom_15 rfl ?_
      refine s_get X (pc := 16) (v := .ref (ad 1)) iX7_placeFrom_at4_X7 0 rfl rfl 0 (by decide) kX7_placeFrom_at4_9 rfl rfl dX7_placeFrom_16 ?_
      refine s_iload_n X (pc := 19) (x := p0) 1 dX7_placeFrom_19 rfl ?_
      refine s_zald X (pc := 20) (n := 5) (f := a0) 1 rfl (by first | with_reducible assumption | exact vin (b := 5) rfl (by grind) (by grind)) dX7_placeFrom_20 ?_
      refine s_if_ne X (pc := 21) (tgt := 33) dX7_placeFrom_21 (by decide) (fun c21 => ?_) (fun c21 => ?_)
      ·
        refine s_iconst X (pc := 33) (v := 0) dX7_placeFrom_33 (by decide) ?_
        refine s_istore_n X (pc := 34) (i := 3) (lv2 := [(3, .int (0 : Int32)), (0, .ref (ad 0)), (1, .int p0), (2, .int p1)]) dX7_placeFrom_34 rfl (by decide) rfl ?_
        refine s_perm (lv2 := [(0, .ref (ad 0)), (1, .int p0), (2, .int p1), (3, .int (0 : Int32))]) [1, 2, 3, 0] rfl ?_
        have L35 : ∀ (n35 : Nat) (b : Int32) (t3 : (Nat → Int32)) (t4 : (Nat → Int32)) (t5 : (Nat → Int32)) (t8 : Int32), (0 ≤ b) → ((12 : Nat) - b.toInt).toNat < n35 → ((pfX7 a0 a1 a2 a6 a7 1 p0 p1 (a3, a4, a5, a8)).1, (pfX7 a0 a1 a2 a6 a7 1 p0 p1 (a3, a4, a5, a8)).2.1, (pfX7 a0 a1 a2 a6 a7 1 p0 p1 (a3, a4, a5, a8)).2.2.1, (pfX7 a0 a1 a2 a6 a7 1 p0 p1 (a3, a4, a5, a8)).2.2.2) = lpX7 a1 a2 a6 a7 (pfX7 a0 a1 a2 a6 a7 0 (p0 + (1 : Int32))) p0 p1 n35 b t3 t4 t5 t8 → Sm p l e (rmL 3) s m args below meth c G A 4 0 0 (Qcv below G A args s (wX7 G ad a0 a1 a2 ((pfX7 a0 a1 a2 a6 a7 1 p0 p1 (a3, a4, a5, a8)).1) ((pfX7 a0 a1 a2 a6 a7 1 p0 p1 (a3, a4, a5, a8)).2.1) ((pfX7 a0 a1 a2 a6 a7 1 p0 p1 (a3, a4, a5, a8)).2.2.1) a6 a7 ((pfX7 a0 a1 a2 a6 a7 1 p0 p1 (a3, a4, a5, a8)).2.2.2))) 35 [(0, .ref (ad 0)), (1, .int p0), (2, .int p1), (3, .int b)] [] (wX7 G ad a0 a1 a2 t3 t4 t5 a6 a7 t8) := by
          intro n35
          induction n35 with
          | zero => intro b t3 t4 t5 t8 hb hm35 hv35; exact absurd hm35 (Nat.not_lt_zero _)
          | succ n35 ih35 =>
            intro b t3 t4 t5 t8 hb hm35 hv35
            refine s_iload_n X (pc := 35) (x := b) 3 dX7_placeFrom_35 rfl ?_
            refine s_bipush X (pc := 36) (v := 12) dX7_placeFrom_36 (by decide) ?_
            refine s_icmp_ge X (pc := 38) (tgt := 115) dX7_placeFrom_38 (by decide) (fun c38 => ?_) (fun c38 => ?_)
            ·
              exact s_vret X (pc := 115) dX7_placeFrom_115 (by rw [show (pfX7 a0 a1 a2 a6 a7 1 p0 p1 (a3, a4, a5, a8)).1 = t3 from (congrArg (fun z => z.1) (hv35.trans (if_pos c38))), show (pfX7 a0 a1 a2 a6 a7 1 p0 p1 (a3, a4, a5, a8)).2.1 = t4 from (congrArg (fun z => z.2.1) (hv35.trans (if_pos c38))), show (pfX7 a0 a1 a2 a6 a7 1 p0 p1 (a3, a4, a5, a8)).2.2.1 = t5 from (congrArg (fun z => z.2.2.1) (hv35.trans (if_pos c38))), show (pfX7 a0 a1 a2 a6 a7 1 p0 p1 (a3, a4, a5, a8)).2.2.2 = t8 from (congrArg (fun z => z.2.2.2) (hv35.trans (if_pos c38)))])
            ·
              refine s_aload_n X (pc := 41) (x := (ad 0)) 0 dX7_placeFrom_41 rfl ?_
              refine s_iload_n X (pc := 42) (x := p1) 2 dX7_placeFrom_42 rfl ?_
              refine s_iload_n X (pc := 43) (x := b) 3 dX7_placeFrom_43 rfl ?_
              refine s_aload_n X (pc := 44) (x := (ad 0)) 0 dX7_placeFrom_44 rfl ?_
              refine s_get X (pc := 45) (v := .ref (ad 2)) iX7_placeFrom_at4_X7 0 rfl rfl 1 (by decide) kX7_placeFrom_at4_15 rfl rfl dX7_placeFrom_45 ?_
              refine s_iload_n X (pc := 48) (x := p0) 1 dX7_placeFrom_48 rfl ?_
              refine s_iald X (pc := 49) (n := 5) (f := a1) 2 rfl (by first | with_reducible assumption | exact vin (b := 5) rfl (by grind) (by grind)) dX7_placeFrom_49 ?_
              refine s_iadd X (pc := 50) dX7_placeFrom_50 ?_
              refine s_max X (pc := 51) kX7_placeFrom_at4_m70 kX7_placeFrom_at4_stmax kX7_placeFrom_at4_inMath kX7_placeFrom_at4_comax (Nat.le_of_ble_eq_true rfl) (Nat.le_of_ble_eq_true rfl) (Nat.zero_le _) (Nat.zero_le _) dX7_placeFrom_51 ?_
              refine s_callVi0 X (pc := 54) (r := rX7_canBeSooner a7 t8 (if p1 < (b + (a1 p0.toNatClampNeg)) then (b + (a1 p0.toNatClampNeg)) else p1)) (w := wX7 G ad a0 a1 a2 t3 t4 t5 a6 a7 t8) (n := 1) (st := []) (As := [.int (if p1 < (b + (a1 p0.toNatClampNeg)) then (b + (a1 p0.toNatClampNeg)) else p1)]) (w2 := wX7 G ad a0 a1 a2 t3 t4 t5 a6 a7 t8) 0 (c_X7_canBeSooner l G ad a0 a1 a2 t3 t4 t5 a6 a7 t8 (if p1 < (b + (a1 p0.toNatClampNeg)) then (b + (a1 p0.toNatClampNeg)) else p1)) gX7_placeFrom_X7_canBeSooner rfl (by decide +kernel) ⟨Nat.le_of_ble_eq_true rfl, Nat.le_of_ble_eq_true rfl⟩ 0 rfl rfl rfl rfl (Nat.le_of_ble_eq_true rfl) (Nat.zero_le _) (Nat.zero_le _) dX7_placeFrom_54 ?_
              refine s_if_eq X (pc := 57) (tgt := 115) dX7_placeFrom_57 (by decide) (fun c57 => ?_) (fun c57 => ?_)
              ·
                exact s_vret X (pc := 115) dX7_placeFrom_115 (by rw [show (pfX7 a0 a1 a2 a6 a7 1 p0 p1 (a3, a4, a5, a8)).1 = t3 from (congrArg (fun z => z.1) (hv35.trans ((if_neg c38).trans (if_pos c57)))), show (pfX7 a0 a1 a2 a6 a7 1 p0 p1 (a3, a4, a5, a8)).2.1 = t4 from (congrArg (fun z => z.2.1) (hv35.trans ((if_neg c38).trans (if_pos c57)))), show (pfX7 a0 a1 a2 a6 a7 1 p0 p1 (a3, a4, a5, a8)).2.2.1 = t5 from (congrArg (fun z => z.2.2.1) (hv35.trans ((if_neg c38).trans (if_pos c57)))), show (pfX7 a0 a1 a2 a6 a7 1 p0 p1 (a3, a4, a5, a8)).2.2.2 = t8 from (congrArg (fun z => z.2.2.2) (hv35.trans ((if_neg c38).trans (if_pos c57))))])
              ·
                refine s_aload_n X (pc := 60) (x := (ad 0)) 0 dX7_placeFrom_60 rfl ?_
                refine s_iload_n X (pc := 61) (x := p0) 1 dX7_placeFrom_61 rfl ?_
                refine s_iload_n X (pc := 62) (x := b) 3 dX7_placeFrom_62 rfl ?_
                refine s_callVi0 X (pc := 63) (r := rX7_fits a1 a2 t5 a6 p0 b) (w := wX7 G ad a0 a1 a2 t3 t4 t5 a6 a7 t8) (n := 2) (st := []) (As := [.int p0, .int b]) (w2 := wX7 G ad a0 a1 a2 t3 t4 t5 a6 a7 t8) 0 (c_X7_fits l G ad a0 a1 a2 t3 t4 t5 a6 a7 t8 p0 b hc hb) gX7_placeFrom_X7_fits rfl (by decide +kernel) ⟨Nat.le_of_ble_eq_true rfl, Nat.le_of_ble_eq_true rfl⟩ 0 rfl rfl rfl rfl (Nat.le_of_ble_eq_true rfl) (Nat.zero_le _) (Nat.zero_le _) dX7_placeFrom_63 ?_
                refine s_if_eq X (pc := 66) (tgt := 109) dX7_placeFrom_66 (by decide) (fun c66 => ?_) (fun c66 => ?_)
                ·
                  refine s_iinc X (pc := 109) (v := b + (1 : Int32)) (lv2 := [(3, .int (b + (1 : Int32))), (0, .ref (ad 0)), (1, .int p0), (2, .int p1)]) 3 dX7_placeFrom_109 rfl rfl (by decide) rfl ?_
                  refine s_goto X (pc := 112) (tgt := 35) dX7_placeFrom_112 (by decide) ?_
                  refine s_perm (lv2 := [(0, .ref (ad 0)), (1, .int p0), (2, .int p1), (3, .int (b + (1 : Int32)))]) [1, 2, 3, 0] rfl ?_
                  exact ih35 (b + (1 : Int32)) t3 t4 t5 t8 (by grind) (up_lt (b := 12) rfl (by grind) hm35) (hv35.trans (show lpX7 a1 a2 a6 a7 (pfX7 a0 a1 a2 a6 a7 0 (p0 + (1 : Int32))) p0 p1 (n35 + 1) b t3 t4 t5 t8 = lpX7 a1 a2 a6 a7 (pfX7 a0 a1 a2 a6 a7 0 (p0 + (1 : Int32))) p0 p1 n35 (b + (1 : Int32)) t3 t4 t5 t8 from by rw [lpX7]; exact ((if_neg c38).trans ((if_neg c57).trans (if_pos c66)))))
                ·
                  refine s_aload_n X (pc := 69) (x := (ad 0)) 0 dX7_placeFrom_69 rfl ?_
                  refine s_get X (pc := 70) (v := .ref (ad 4)) iX7_placeFrom_at4_X7 0 rfl rfl 3 (by decide) kX7_placeFrom_at4_22 rfl rfl dX7_placeFrom_70 ?_
                  refine s_iload_n X (pc := 73) (x := p0) 1 dX7_placeFrom_73 rfl ?_
                  refine s_iload_n X (pc := 74) (x := b) 3 dX7_placeFrom_74 rfl ?_
                  refine s_iast X (pc := 75) (n := 5) (f := t3) (w2 := wX7 G ad a0 a1 a2 (upd t3 p0.toNatClampNeg b) t4 t5 a6 a7 t8) 4 rfl (by first | with_reducible assumption | exact vin (b := 5) rfl (by grind) (by grind)) rfl dX7_placeFrom_75 ?_
                  refine s_aload_n X (pc := 76) (x := (ad 0)) 0 dX7_placeFrom_76 rfl ?_
                  refine s_iload_n X (pc := 77) (x := p0) 1 dX7_placeFrom_77 rfl ?_
                  refine s_iload_n X (pc := 78) (x := b) 3 dX7_placeFrom_78 rfl ?_
                  refine s_iconst X (pc := 79) (v := 1) dX7_placeFrom_79 (by decide) ?_
                  refine s_callVv0 X (pc := 80) (w := wX7 G ad a0 a1 a2 (upd t3 p0.toNatClampNeg b) t4 t5 a6 a7 t8) (n := 3) (st := []) (As := [.int p0, .int b, .int (1 : Int32)]) (w2 := wX7 G ad a0 a1 a2 (upd t3 p0.toNatClampNeg b) t4 (sX7_occupy_5 a1 t5 p0 b (1 : Int32)) a6 a7 t8) 0 (c_X7_occupy l G ad a0 a1 a2 (upd t3 p0.toNatClampNeg b) t4 t5 a6 a7 t8 p0 b (1 : Int32) hc hb) gX7_placeFrom_X7_occupy rfl (by decide +kernel) ⟨Nat.le_of_ble_eq_true rfl, Nat.le_of_ble_eq_true rfl⟩ 0 rfl rfl rfl rfl (Nat.le_of_ble_eq_true rfl) (Nat.zero_le _) (Nat.zero_le _) dX7_placeFrom_80 ?_
                  refine s_aload_n X (pc := 83) (x := (ad 0)) 0 dX7_placeFrom_83 rfl ?_
                  refine s_iload_n X (pc := 84) (x := p0) 1 dX7_placeFrom_84 rfl ?_
                  refine s_iconst X (pc := 85) (v := 1) dX7_placeFrom_85 (by decide) ?_
                  refine s_iadd X (pc := 86) dX7_placeFrom_86 ?_
                  refine s_iload_n X (pc := 87) (x := p1) 2 dX7_placeFrom_87 rfl ?_
                  refine s_iload_n X (pc := 88) (x := b) 3 dX7_placeFrom_88 rfl ?_
                  refine s_aload_n X (pc := 89) (x := (ad 0)) 0 dX7_placeFrom_89 rfl ?_
                  refine s_get X (pc := 90) (v := .ref (ad 2)) iX7_placeFrom_at4_X7 0 rfl rfl 1 (by decide) kX7_placeFrom_at4_15 rfl rfl dX7_placeFrom_90 ?_
                  refine s_iload_n X (pc := 93) (x := p0) 1 dX7_placeFrom_93 rfl ?_
                  refine s_iald X (pc := 94) (n := 5) (f := a1) 2 rfl (by first | with_reducible assumption | exact vin (b := 5) rfl (by grind) (by grind)) dX7_placeFrom_94 ?_
                  refine s_iadd X (pc := 95) dX7_placeFrom_95 ?_
                  refine s_max X (pc := 96) kX7_placeFrom_at4_m70 kX7_placeFrom_at4_stmax kX7_placeFrom_at4_inMath kX7_placeFrom_at4_comax (Nat.le_of_ble_eq_true rfl) (Nat.le_of_ble_eq_true rfl) (Nat.zero_le _) (Nat.zero_le _) dX7_placeFrom_96 ?_
                  refine s_callSv0 X (pc := 99) (w := wX7 G ad a0 a1 a2 (upd t3 p0.toNatClampNeg b) t4 (sX7_occupy_5 a1 t5 p0 b (1 : Int32)) a6 a7 t8) (n := 3) (st := []) (As := [.ref (ad 0), .int (p0 + (1 : Int32)), .int (if p1 < (b + (a1 p0.toNatClampNeg)) then (b + (a1 p0.toNatClampNeg)) else p1)]) (w2 := wX7 G ad a0 a1 a2 ((pfX7 a0 a1 a2 a6 a7 0 (p0 + (1 : Int32)) (if p1 < (b + (a1 p0.toNatClampNeg)) then (b + (a1 p0.toNatClampNeg)) else p1) ((upd t3 p0.toNatClampNeg b), t4, (sX7_occupy_5 a1 t5 p0 b (1 : Int32)), t8)).1) ((pfX7 a0 a1 a2 a6 a7 0 (p0 + (1 : Int32)) (if p1 < (b + (a1 p0.toNatClampNeg)) then (b + (a1 p0.toNatClampNeg)) else p1) ((upd t3 p0.toNatClampNeg b), t4, (sX7_occupy_5 a1 t5 p0 b (1 : Int32)), t8)).2.1) ((pfX7 a0 a1 a2 a6 a7 0 (p0 + (1 : Int32)) (if p1 < (b + (a1 p0.toNatClampNeg)) then (b + (a1 p0.toNatClampNeg)) else p1) ((upd t3 p0.toNatClampNeg b), t4, (sX7_occupy_5 a1 t5 p0 b (1 : Int32)), t8)).2.2.1) a6 a7 ((pfX7 a0 a1 a2 a6 a7 0 (p0 + (1 : Int32)) (if p1 < (b + (a1 p0.toNatClampNeg)) then (b + (a1 p0.toNatClampNeg)) else p1) ((upd t3 p0.toNatClampNeg b), t4, (sX7_occupy_5 a1 t5 p0 b (1 : Int32)), t8)).2.2.2)) 2 (c_X7_placeFrom_at5 l G ad a0 a1 a2 (upd t3 p0.toNatClampNeg b) t4 (sX7_occupy_5 a1 t5 p0 b (1 : Int32)) a6 a7 t8 (p0 + (1 : Int32)) (if p1 < (b + (a1 p0.toNatClampNeg)) then (b + (a1 p0.toNatClampNeg)) else p1) (by rw [hp0]; rfl)) gX7_placeFrom_X7_placeFrom rfl (by decide +kernel) ⟨Nat.le_of_ble_eq_true rfl, Nat.le_of_ble_eq_true rfl⟩ rfl rfl (Nat.le_of_ble_eq_true rfl) (Nat.zero_le _) (Nat.zero_le _) dX7_placeFrom_99 ?_
                  refine s_aload_n X (pc := 102) (x := (ad 0)) 0 dX7_placeFrom_102 rfl ?_
                  refine s_iload_n X (pc := 103) (x := p0) 1 dX7_placeFrom_103 rfl ?_
                  refine s_iload_n X (pc := 104) (x := b) 3 dX7_placeFrom_104 rfl ?_
                  refine s_iconst X (pc := 105) (v := -1) dX7_placeFrom_105 (by decide) ?_
                  refine s_callVv0 X (pc := 106) (w := wX7 G ad a0 a1 a2 ((pfX7 a0 a1 a2 a6 a7 0 (p0 + (1 : Int32)) (if p1 < (b + (a1 p0.toNatClampNeg)) then (b + (a1 p0.toNatClampNeg)) else p1) ((upd t3 p0.toNatClampNeg b), t4, (sX7_occupy_5 a1 t5 p0 b (1 : Int32)), t8)).1) ((pfX7 a0 a1 a2 a6 a7 0 (p0 + (1 : Int32)) (if p1 < (b + (a1 p0.toNatClampNeg)) then (b + (a1 p0.toNatClampNeg)) else p1) ((upd t3 p0.toNatClampNeg b), t4, (sX7_occupy_5 a1 t5 p0 b (1 : Int32)), t8)).2.1) ((pfX7 a0 a1 a2 a6 a7 0 (p0 + (1 : Int32)) (if p1 < (b + (a1 p0.toNatClampNeg)) then (b + (a1 p0.toNatClampNeg)) else p1) ((upd t3 p0.toNatClampNeg b), t4, (sX7_occupy_5 a1 t5 p0 b (1 : Int32)), t8)).2.2.1) a6 a7 ((pfX7 a0 a1 a2 a6 a7 0 (p0 + (1 : Int32)) (if p1 < (b + (a1 p0.toNatClampNeg)) then (b + (a1 p0.toNatClampNeg)) else p1) ((upd t3 p0.toNatClampNeg b), t4, (sX7_occupy_5 a1 t5 p0 b (1 : Int32)), t8)).2.2.2)) (n := 3) (st := []) (As := [.int p0, .int b, .int (-1 : Int32)]) (w2 := wX7 G ad a0 a1 a2 ((pfX7 a0 a1 a2 a6 a7 0 (p0 + (1 : Int32)) (if p1 < (b + (a1 p0.toNatClampNeg)) then (b + (a1 p0.toNatClampNeg)) else p1) ((upd t3 p0.toNatClampNeg b), t4, (sX7_occupy_5 a1 t5 p0 b (1 : Int32)), t8)).1) ((pfX7 a0 a1 a2 a6 a7 0 (p0 + (1 : Int32)) (if p1 < (b + (a1 p0.toNatClampNeg)) then (b + (a1 p0.toNatClampNeg)) else p1) ((upd t3 p0.toNatClampNeg b), t4, (sX7_occupy_5 a1 t5 p0 b (1 : Int32)), t8)).2.1) (sX7_occupy_5 a1 ((pfX7 a0 a1 a2 a6 a7 0 (p0 + (1 : Int32)) (if p1 < (b + (a1 p0.toNatClampNeg)) then (b + (a1 p0.toNatClampNeg)) else p1) ((upd t3 p0.toNatClampNeg b), t4, (sX7_occupy_5 a1 t5 p0 b (1 : Int32)), t8)).2.2.1) p0 b (-1 : Int32)) a6 a7 ((pfX7 a0 a1 a2 a6 a7 0 (p0 + (1 : Int32)) (if p1 < (b + (a1 p0.toNatClampNeg)) then (b + (a1 p0.toNatClampNeg)) else p1) ((upd t3 p0.toNatClampNeg b), t4, (sX7_occupy_5 a1 t5 p0 b (1 : Int32)), t8)).2.2.2)) 0 (c_X7_occupy l G ad a0 a1 a2 ((pfX7 a0 a1 a2 a6 a7 0 (p0 + (1 : Int32)) (if p1 < (b + (a1 p0.toNatClampNeg)) then (b + (a1 p0.toNatClampNeg)) else p1) ((upd t3 p0.toNatClampNeg b), t4, (sX7_occupy_5 a1 t5 p0 b (1 : Int32)), t8)).1) ((pfX7 a0 a1 a2 a6 a7 0 (p0 + (1 : Int32)) (if p1 < (b + (a1 p0.toNatClampNeg)) then (b + (a1 p0.toNatClampNeg)) else p1) ((upd t3 p0.toNatClampNeg b), t4, (sX7_occupy_5 a1 t5 p0 b (1 : Int32)), t8)).2.1) ((pfX7 a0 a1 a2 a6 a7 0 (p0 + (1 : Int32)) (if p1 < (b + (a1 p0.toNatClampNeg)) then (b + (a1 p0.toNatClampNeg)) else p1) ((upd t3 p0.toNatClampNeg b), t4, (sX7_occupy_5 a1 t5 p0 b (1 : Int32)), t8)).2.2.1) a6 a7 ((pfX7 a0 a1 a2 a6 a7 0 (p0 + (1 : Int32)) (if p1 < (b + (a1 p0.toNatClampNeg)) then (b + (a1 p0.toNatClampNeg)) else p1) ((upd t3 p0.toNatClampNeg b), t4, (sX7_occupy_5 a1 t5 p0 b (1 : Int32)), t8)).2.2.2) p0 b (-1 : Int32) hc hb) gX7_placeFrom_X7_occupy rfl (by decide +kernel) ⟨Nat.le_of_ble_eq_true rfl, Nat.le_of_ble_eq_true rfl⟩ 0 rfl rfl rfl rfl (Nat.le_of_ble_eq_true rfl) (Nat.zero_le _) (Nat.zero_le _) dX7_placeFrom_106 ?_
                  refine s_iinc X (pc := 109) (v := b + (1 : Int32)) (lv2 := [(3, .int (b + (1 : Int32))), (0, .ref (ad 0)), (1, .int p0), (2, .int p1)]) 3 dX7_placeFrom_109 rfl rfl (by decide) rfl ?_
                  refine s_goto X (pc := 112) (tgt := 35) dX7_placeFrom_112 (by decide) ?_
                  refine s_perm (lv2 := [(0, .ref (ad 0)), (1, .int p0), (2, .int p1), (3, .int (b + (1 : Int32)))]) [1, 2, 3, 0] rfl ?_
                  exact ih35 (b + (1 : Int32)) ((pfX7 a0 a1 a2 a6 a7 0 (p0 + (1 : Int32)) (if p1 < (b + (a1 p0.toNatClampNeg)) then (b + (a1 p0.toNatClampNeg)) else p1) ((upd t3 p0.toNatClampNeg b), t4, (sX7_occupy_5 a1 t5 p0 b (1 : Int32)), t8)).1) ((pfX7 a0 a1 a2 a6 a7 0 (p0 + (1 : Int32)) (if p1 < (b + (a1 p0.toNatClampNeg)) then (b + (a1 p0.toNatClampNeg)) else p1) ((upd t3 p0.toNatClampNeg b), t4, (sX7_occupy_5 a1 t5 p0 b (1 : Int32)), t8)).2.1) (sX7_occupy_5 a1 ((pfX7 a0 a1 a2 a6 a7 0 (p0 + (1 : Int32)) (if p1 < (b + (a1 p0.toNatClampNeg)) then (b + (a1 p0.toNatClampNeg)) else p1) ((upd t3 p0.toNatClampNeg b), t4, (sX7_occupy_5 a1 t5 p0 b (1 : Int32)), t8)).2.2.1) p0 b (-1 : Int32)) ((pfX7 a0 a1 a2 a6 a7 0 (p0 + (1 : Int32)) (if p1 < (b + (a1 p0.toNatClampNeg)) then (b + (a1 p0.toNatClampNeg)) else p1) ((upd t3 p0.toNatClampNeg b), t4, (sX7_occupy_5 a1 t5 p0 b (1 : Int32)), t8)).2.2.2) (by grind) (up_lt (b := 12) rfl (by grind) hm35) (hv35.trans (show lpX7 a1 a2 a6 a7 (pfX7 a0 a1 a2 a6 a7 0 (p0 + (1 : Int32))) p0 p1 (n35 + 1) b t3 t4 t5 t8 = lpX7 a1 a2 a6 a7 (pfX7 a0 a1 a2 a6 a7 0 (p0 + (1 : Int32))) p0 p1 n35 (b + (1 : Int32)) ((pfX7 a0 a1 a2 a6 a7 0 (p0 + (1 : Int32)) (if p1 < (b + (a1 p0.toNatClampNeg)) then (b + (a1 p0.toNatClampNeg)) else p1) ((upd t3 p0.toNatClampNeg b), t4, (sX7_occupy_5 a1 t5 p0 b (1 : Int32)), t8)).1) ((pfX7 a0 a1 a2 a6 a7 0 (p0 + (1 : Int32)) (if p1 < (b + (a1 p0.toNatClampNeg)) then (b + (a1 p0.toNatClampNeg)) else p1) ((upd t3 p0.toNatClampNeg b), t4, (sX7_occupy_5 a1 t5 p0 b (1 : Int32)), t8)).2.1) (sX7_occupy_5 a1 ((pfX7 a0 a1 a2 a6 a7 0 (p0 + (1 : Int32)) (if p1 < (b + (a1 p0.toNatClampNeg)) then (b + (a1 p0.toNatClampNeg)) else p1) ((upd t3 p0.toNatClampNeg b), t4, (sX7_occupy_5 a1 t5 p0 b (1 : Int32)), t8)).2.2.1) p0 b (-1 : Int32)) ((pfX7 a0 a1 a2 a6 a7 0 (p0 + (1 : Int32)) (if p1 < (b + (a1 p0.toNatClampNeg)) then (b + (a1 p0.toNatClampNeg)) else p1) ((upd t3 p0.toNatClampNeg b), t4, (sX7_occupy_5 a1 t5 p0 b (1 : Int32)), t8)).2.2.2) from by rw [lpX7]; exact ((if_neg c38).trans ((if_neg c57).trans (if_neg c66)))))
        exact L35 13 (0 : Int32) a3 a4 a5 a8 (by decide) (m_lt (by decide)) (if_neg c21)
      ·
        refine s_aload_n X (pc := 24) (x := (ad 0)) 0 dX7_placeFrom_24 rfl ?_
        refine s_iload_n X (pc := 25) (x := p0) 1 dX7_placeFrom_25 rfl ?_
        refine s_iconst X (pc := 26) (v := 1) dX7_placeFrom_26 (by decide) ?_
        refine s_iadd X (pc := 27) dX7_placeFrom_27 ?_
        refine s_iload_n X (pc := 28) (x := p1) 2 dX7_placeFrom_28 rfl ?_
        refine s_callSv0 X (pc := 29) (w := wX7 G ad a0 a1 a2 a3 a4 a5 a6 a7 a8) (n := 3) (st := []) (As := [.ref (ad 0), .int (p0 + (1 : Int32)), .int p1]) (w2 := wX7 G ad a0 a1 a2 ((pfX7 a0 a1 a2 a6 a7 0 (p0 + (1 : Int32)) p1 (a3, a4, a5, a8)).1) ((pfX7 a0 a1 a2 a6 a7 0 (p0 + (1 : Int32)) p1 (a3, a4, a5, a8)).2.1) ((pfX7 a0 a1 a2 a6 a7 0 (p0 + (1 : Int32)) p1 (a3, a4, a5, a8)).2.2.1) a6 a7 ((pfX7 a0 a1 a2 a6 a7 0 (p0 + (1 : Int32)) p1 (a3, a4, a5, a8)).2.2.2)) 2 (c_X7_placeFrom_at5 l G ad a0 a1 a2 a3 a4 a5 a6 a7 a8 (p0 + (1 : Int32)) p1 (by rw [hp0]; rfl)) gX7_placeFrom_X7_placeFrom rfl (by decide +kernel) ⟨Nat.le_of_ble_eq_true rfl, Nat.le_of_ble_eq_true rfl⟩ rfl rfl (Nat.le_of_ble_eq_true rfl) (Nat.zero_le _) (Nat.zero_le _) dX7_placeFrom_29 ?_
        exact s_vret X (pc := 32) dX7_placeFrom_32 (by rw [show (pfX7 a0 a1 a2 a6 a7 1 p0 p1 (a3, a4, a5, a8)).1 = (pfX7 a0 a1 a2 a6 a7 0 (p0 + (1 : Int32)) p1 (a3, a4, a5, a8)).1 from (congrArg (fun z => z.1) (show pfX7 a0 a1 a2 a6 a7 1 p0 p1 (a3, a4, a5, a8) = pfX7 a0 a1 a2 a6 a7 0 (p0 + (1 : Int32)) p1 (a3, a4, a5, a8) from if_pos c21)), show (pfX7 a0 a1 a2 a6 a7 1 p0 p1 (a3, a4, a5, a8)).2.1 = (pfX7 a0 a1 a2 a6 a7 0 (p0 + (1 : Int32)) p1 (a3, a4, a5, a8)).2.1 from (congrArg (fun z => z.2.1) (show pfX7 a0 a1 a2 a6 a7 1 p0 p1 (a3, a4, a5, a8) = pfX7 a0 a1 a2 a6 a7 0 (p0 + (1 : Int32)) p1 (a3, a4, a5, a8) from if_pos c21)), show (pfX7 a0 a1 a2 a6 a7 1 p0 p1 (a3, a4, a5, a8)).2.2.1 = (pfX7 a0 a1 a2 a6 a7 0 (p0 + (1 : Int32)) p1 (a3, a4, a5, a8)).2.2.1 from (congrArg (fun z => z.2.2.1) (show pfX7 a0 a1 a2 a6 a7 1 p0 p1 (a3, a4, a5, a8) = pfX7 a0 a1 a2 a6 a7 0 (p0 + (1 : Int32)) p1 (a3, a4, a5, a8) from if_pos c21)), show (pfX7 a0 a1 a2 a6 a7 1 p0 p1 (a3, a4, a5, a8)).2.2.2 = (pfX7 a0 a1 a2 a6 a7 0 (p0 + (1 : Int32)) p1 (a3, a4, a5, a8)).2.2.2 from (congrArg (fun z => z.2.2.2) (show pfX7 a0 a1 a2 a6 a7 1 p0 p1 (a3, a4, a5, a8) = pfX7 a0 a1 a2 a6 a7 0 (p0 + (1 : Int32)) p1 (a3, a4, a5, a8) from if_pos c21))])
    ·
      exact absurd c6 (not_not_intro (by rw [hp0]; decide))

theorem iX7_placeFrom_at3_X7 : ∀ z ∈ wsX70, z ∈ wsX7_placeFrom := fun z h => List.mem_cons_of_mem _ (List.mem_append_right _ h)
theorem kX7_placeFrom_at3_9 : Cond.fieldLink RX7 9 "BathingCourt$Planner" (TX7 0).2.1 (TX7 0).2.2.1 ∈ wsX7_placeFrom := List.mem_of_getElem? (i := 1) rfl
theorem kX7_placeFrom_at3_15 : Cond.fieldLink RX7 15 "BathingCourt$Planner" (TX7 1).2.1 (TX7 1).2.2.1 ∈ wsX7_placeFrom := List.mem_of_getElem? (i := 2) rfl
theorem kX7_placeFrom_at3_m70 : Cond.methodLink RX7 70 Lib.Math.max.name ∈ wsX7_placeFrom := List.mem_of_getElem? (i := 3) rfl
theorem kX7_placeFrom_at3_stmax : Cond.static Lib.Math.max.name ∈ wsX7_placeFrom := List.mem_of_getElem? (i := 4) rfl
theorem kX7_placeFrom_at3_inMath : Cond.initialized "java/lang/Math" ∈ wsX7_placeFrom := List.mem_of_getElem? (i := 5) rfl
theorem kX7_placeFrom_at3_comax : Cond.code Lib.Math.max.name Lib.Math.max.code 2 (some .int) ∈ wsX7_placeFrom := List.mem_of_getElem? (i := 6) rfl
theorem kX7_placeFrom_at3_22 : Cond.fieldLink RX7 22 "BathingCourt$Planner" (TX7 3).2.1 (TX7 3).2.2.1 ∈ wsX7_placeFrom := List.mem_of_getElem? (i := 7) rfl
set_option maxRecDepth 100000 in
set_option maxHeartbeats 4000000 in
theorem c_X7_placeFrom_at3 (l : Launch) (G : GT) (ad : Nat → Nat) (a0 a1 a2 a3 a4 a5 : Nat → Int32) (a6 a7 a8 p0 p1 : Int32) (hp0 : p0 = 3) : Cv l G yX7_placeFrom wsX7_placeFrom (rmL 4) [.ref (ad 0), .int p0, .int p1] (wX7 G ad a0 a1 a2 a3 a4 a5 a6 a7 a8) (wX7 G ad a0 a1 a2 ((pfX7 a0 a1 a2 a6 a7 2 p0 p1 (a3, a4, a5, a8)).1) ((pfX7 a0 a1 a2 a6 a7 2 p0 p1 (a3, a4, a5, a8)).2.1) ((pfX7 a0 a1 a2 a6 a7 2 p0 p1 (a3, a4, a5, a8)).2.2.1) a6 a7 ((pfX7 a0 a1 a2 a6 a7 2 p0 p1 (a3, a4, a5, a8)).2.2.2)) := by
  refine cv_start (by decide) rfl rfl (Nat.le_of_ble_eq_true rfl) ?_
  intro p e s m args below meth c A X
  have hc : vp_in p0 5 := by rw [hp0]; exact vp_in_iff.mpr (by decide)
  refine s_perm (lv2 := [(0, .ref (ad 0)), (1, .int p0), (2, .int p1)]) [0, 1, 2] rfl ?_
  refine s_iload_n X (pc := 0) (x := p0) 1 dX7_placeFrom_0 rfl ?_
  refine s_if_lt X (pc := 1) (tgt := 9) dX7_placeFrom_1 (by decide) (fun c1 => ?_) (fun c1 => ?_)
  ·
    exact absurd c1 (by rw [hp0]; decide)
  ·
    refine s_iload_n X (pc := 4) (x := p0) 1 dX7_placeFrom_4 rfl ?_
    refine s_iconst X (pc := 5) (v := 5) dX7_placeFrom_5 (by decide) ?_
    refine s_icmp_lt X (pc := 6) (tgt := 15) dX7_placeFrom_6 (by decide) (fun c6 => ?_) (fun c6 => ?_)
    ·
      refine s_aload_n X (pc := 15) (x := (ad 0)) 0 dX7_placeFrom_15 rfl ?_
      refine s_get X (pc := 16) (v := .ref (ad 1)) iX7_placeFrom_at3_X7 0 rfl rfl 0 (by decide) kX7_placeFrom_at3_9 rfl rfl dX7_placeFrom_16 ?_
      refine s_iload_n X (pc := 19) (x := p0) 1 dX7_placeFrom_19 rfl ?_
      refine s_zald X (pc := 20) (n := 5) (f := a0) 1 rfl (by first | with_reducible assumption | exact vin (b := 5) rfl (by grind) (by grind)) dX7_placeFrom_20 ?_
      refine s_if_ne X (pc := 21) (tgt := 33) dX7_placeFrom_21 (by decide) (fun c21 => ?_) (fun c21 => ?_)
      ·
        refine s_iconst X (pc := 33) (v := 0) dX7_placeFrom_33 (by decide) ?_
        refine s_istore_n X (pc := 34) (i := 3) (lv2 := [(3, .int (0 : Int32)), (0, .ref (ad 0)), (1, .int p0), (2, .int p1)]) dX7_placeFrom_34 rfl (by decide) rfl ?_
        refine s_perm (lv2 := [(0, .ref (ad 0)), (1, .int p0), (2, .int p1), (3, .int (0 : Int32))]) [1, 2, 3, 0] rfl ?_
        have L35 : ∀ (n35 : Nat) (b : Int32) (t3 : (Nat → Int32)) (t4 : (Nat → Int32)) (t5 : (Nat → Int32)) (t8 : Int32), (0 ≤ b) → ((12 : Nat) - b.toInt).toNat < n35 → ((pfX7 a0 a1 a2 a6 a7 2 p0 p1 (a3, a4, a5, a8)).1, (pfX7 a0 a1 a2 a6 a7 2 p0 p1 (a3, a4, a5, a8)).2.1, (pfX7 a0 a1 a2 a6 a7 2 p0 p1 (a3, a4, a5, a8)).2.2.1, (pfX7 a0 a1 a2 a6 a7 2 p0 p1 (a3, a4, a5, a8)).2.2.2) = lpX7 a1 a2 a6 a7 (pfX7 a0 a1 a2 a6 a7 1 (p0 + (1 : Int32))) p0 p1 n35 b t3 t4 t5 t8 → Sm p l e (rmL 4) s m args below meth c G A 4 0 0 (Qcv below G A args s (wX7 G ad a0 a1 a2 ((pfX7 a0 a1 a2 a6 a7 2 p0 p1 (a3, a4, a5, a8)).1) ((pfX7 a0 a1 a2 a6 a7 2 p0 p1 (a3, a4, a5, a8)).2.1) ((pfX7 a0 a1 a2 a6 a7 2 p0 p1 (a3, a4, a5, a8)).2.2.1) a6 a7 ((pfX7 a0 a1 a2 a6 a7 2 p0 p1 (a3, a4, a5, a8)).2.2.2))) 35 [(0, .ref (ad 0)), (1, .int p0), (2, .int p1), (3, .int b)] [] (wX7 G ad a0 a1 a2 t3 t4 t5 a6 a7 t8) := by
          intro n35
          induction n35 with
          | zero => intro b t3 t4 t5 t8 hb hm35 hv35; exact absurd hm35 (Nat.not_lt_zero _)
          | succ n35 ih35 =>
            intro b t3 t4 t5 t8 hb hm35 hv35
            refine s_iload_n X (pc := 35) (x := b) 3 dX7_placeFrom_35 rfl ?_
            refine s_bipush X (pc := 36) (v := 12) dX7_placeFrom_36 (by decide) ?_
            refine s_icmp_ge X (pc := 38) (tgt := 115) dX7_placeFrom_38 (by decide) (fun c38 => ?_) (fun c38 => ?_)
            ·
              exact s_vret X (pc := 115) dX7_placeFrom_115 (by rw [show (pfX7 a0 a1 a2 a6 a7 2 p0 p1 (a3, a4, a5, a8)).1 = t3 from (congrArg (fun z => z.1) (hv35.trans (if_pos c38))), show (pfX7 a0 a1 a2 a6 a7 2 p0 p1 (a3, a4, a5, a8)).2.1 = t4 from (congrArg (fun z => z.2.1) (hv35.trans (if_pos c38))), show (pfX7 a0 a1 a2 a6 a7 2 p0 p1 (a3, a4, a5, a8)).2.2.1 = t5 from (congrArg (fun z => z.2.2.1) (hv35.trans (if_pos c38))), show (pfX7 a0 a1 a2 a6 a7 2 p0 p1 (a3, a4, a5, a8)).2.2.2 = t8 from (congrArg (fun z => z.2.2.2) (hv35.trans (if_pos c38)))])
            ·
              refine s_aload_n X (pc := 41) (x := (ad 0)) 0 dX7_placeFrom_41 rfl ?_
              refine s_iload_n X (pc := 42) (x := p1) 2 dX7_placeFrom_42 rfl ?_
              refine s_iload_n X (pc := 43) (x := b) 3 dX7_placeFrom_43 rfl ?_
              refine s_aload_n X (pc := 44) (x := (ad 0)) 0 dX7_placeFrom_44 rfl ?_
              refine s_get X (pc := 45) (v := .ref (ad 2)) iX7_placeFrom_at3_X7 0 rfl rfl 1 (by decide) kX7_placeFrom_at3_15 rfl rfl dX7_placeFrom_45 ?_
              refine s_iload_n X (pc := 48) (x := p0) 1 dX7_placeFrom_48 rfl ?_
              refine s_iald X (pc := 49) (n := 5) (f := a1) 2 rfl (by first | with_reducible assumption | exact vin (b := 5) rfl (by grind) (by grind)) dX7_placeFrom_49 ?_
              refine s_iadd X (pc := 50) dX7_placeFrom_50 ?_
              refine s_max X (pc := 51) kX7_placeFrom_at3_m70 kX7_placeFrom_at3_stmax kX7_placeFrom_at3_inMath kX7_placeFrom_at3_comax (Nat.le_of_ble_eq_true rfl) (Nat.le_of_ble_eq_true rfl) (Nat.zero_le _) (Nat.zero_le _) dX7_placeFrom_51 ?_
              refine s_callVi0 X (pc := 54) (r := rX7_canBeSooner a7 t8 (if p1 < (b + (a1 p0.toNatClampNeg)) then (b + (a1 p0.toNatClampNeg)) else p1)) (w := wX7 G ad a0 a1 a2 t3 t4 t5 a6 a7 t8) (n := 1) (st := []) (As := [.int (if p1 < (b + (a1 p0.toNatClampNeg)) then (b + (a1 p0.toNatClampNeg)) else p1)]) (w2 := wX7 G ad a0 a1 a2 t3 t4 t5 a6 a7 t8) 0 (c_X7_canBeSooner l G ad a0 a1 a2 t3 t4 t5 a6 a7 t8 (if p1 < (b + (a1 p0.toNatClampNeg)) then (b + (a1 p0.toNatClampNeg)) else p1)) gX7_placeFrom_X7_canBeSooner rfl (by decide +kernel) ⟨Nat.le_of_ble_eq_true rfl, Nat.le_of_ble_eq_true rfl⟩ 0 rfl rfl rfl rfl (Nat.le_of_ble_eq_true rfl) (Nat.zero_le _) (Nat.zero_le _) dX7_placeFrom_54 ?_
              refine s_if_eq X (pc := 57) (tgt := 115) dX7_placeFrom_57 (by decide) (fun c57 => ?_) (fun c57 => ?_)
              ·
                exact s_vret X (pc := 115) dX7_placeFrom_115 (by rw [show (pfX7 a0 a1 a2 a6 a7 2 p0 p1 (a3, a4, a5, a8)).1 = t3 from (congrArg (fun z => z.1) (hv35.trans ((if_neg c38).trans (if_pos c57)))), show (pfX7 a0 a1 a2 a6 a7 2 p0 p1 (a3, a4, a5, a8)).2.1 = t4 from (congrArg (fun z => z.2.1) (hv35.trans ((if_neg c38).trans (if_pos c57)))), show (pfX7 a0 a1 a2 a6 a7 2 p0 p1 (a3, a4, a5, a8)).2.2.1 = t5 from (congrArg (fun z => z.2.2.1) (hv35.trans ((if_neg c38).trans (if_pos c57)))), show (pfX7 a0 a1 a2 a6 a7 2 p0 p1 (a3, a4, a5, a8)).2.2.2 = t8 from (congrArg (fun z => z.2.2.2) (hv35.trans ((if_neg c38).trans (if_pos c57))))])
              ·
                refine s_aload_n X (pc := 60) (x := (ad 0)) 0 dX7_placeFrom_60 rfl ?_
                refine s_iload_n X (pc := 61) (x := p0) 1 dX7_placeFrom_61 rfl ?_
                refine s_iload_n X (pc := 62) (x := b) 3 dX7_placeFrom_62 rfl ?_
                refine s_callVi0 X (pc := 63) (r := rX7_fits a1 a2 t5 a6 p0 b) (w := wX7 G ad a0 a1 a2 t3 t4 t5 a6 a7 t8) (n := 2) (st := []) (As := [.int p0, .int b]) (w2 := wX7 G ad a0 a1 a2 t3 t4 t5 a6 a7 t8) 0 (c_X7_fits l G ad a0 a1 a2 t3 t4 t5 a6 a7 t8 p0 b hc hb) gX7_placeFrom_X7_fits rfl (by decide +kernel) ⟨Nat.le_of_ble_eq_true rfl, Nat.le_of_ble_eq_true rfl⟩ 0 rfl rfl rfl rfl (Nat.le_of_ble_eq_true rfl) (Nat.zero_le _) (Nat.zero_le _) dX7_placeFrom_63 ?_
                refine s_if_eq X (pc := 66) (tgt := 109) dX7_placeFrom_66 (by decide) (fun c66 => ?_) (fun c66 => ?_)
                ·
                  refine s_iinc X (pc := 109) (v := b + (1 : Int32)) (lv2 := [(3, .int (b + (1 : Int32))), (0, .ref (ad 0)), (1, .int p0), (2, .int p1)]) 3 dX7_placeFrom_109 rfl rfl (by decide) rfl ?_
                  refine s_goto X (pc := 112) (tgt := 35) dX7_placeFrom_112 (by decide) ?_
                  refine s_perm (lv2 := [(0, .ref (ad 0)), (1, .int p0), (2, .int p1), (3, .int (b + (1 : Int32)))]) [1, 2, 3, 0] rfl ?_
                  exact ih35 (b + (1 : Int32)) t3 t4 t5 t8 (by grind) (up_lt (b := 12) rfl (by grind) hm35) (hv35.trans (show lpX7 a1 a2 a6 a7 (pfX7 a0 a1 a2 a6 a7 1 (p0 + (1 : Int32))) p0 p1 (n35 + 1) b t3 t4 t5 t8 = lpX7 a1 a2 a6 a7 (pfX7 a0 a1 a2 a6 a7 1 (p0 + (1 : Int32))) p0 p1 n35 (b + (1 : Int32)) t3 t4 t5 t8 from by rw [lpX7]; exact ((if_neg c38).trans ((if_neg c57).trans (if_pos c66)))))
                ·
                  refine s_aload_n X (pc := 69) (x := (ad 0)) 0 dX7_placeFrom_69 rfl ?_
                  refine s_get X (pc := 70) (v := .ref (ad 4)) iX7_placeFrom_at3_X7 0 rfl rfl 3 (by decide) kX7_placeFrom_at3_22 rfl rfl dX7_placeFrom_70 ?_
                  refine s_iload_n X (pc := 73) (x := p0) 1 dX7_placeFrom_73 rfl ?_
                  refine s_iload_n X (pc := 74) (x := b) 3 dX7_placeFrom_74 rfl ?_
                  refine s_iast X (pc := 75) (n := 5) (f := t3) (w2 := wX7 G ad a0 a1 a2 (upd t3 p0.toNatClampNeg b) t4 t5 a6 a7 t8) 4 rfl (by first | with_reducible assumption | exact vin (b := 5) rfl (by grind) (by grind)) rfl dX7_placeFrom_75 ?_
                  refine s_aload_n X (pc := 76) (x := (ad 0)) 0 dX7_placeFrom_76 rfl ?_
                  refine s_iload_n X (pc := 77) (x := p0) 1 dX7_placeFrom_77 rfl ?_
                  refine s_iload_n X (pc := 78) (x := b) 3 dX7_placeFrom_78 rfl ?_
                  refine s_iconst X (pc := 79) (v := 1) dX7_placeFrom_79 (by decide) ?_
                  refine s_callVv0 X (pc := 80) (w := wX7 G ad a0 a1 a2 (upd t3 p0.toNatClampNeg b) t4 t5 a6 a7 t8) (n := 3) (st := []) (As := [.int p0, .int b, .int (1 : Int32)]) (w2 := wX7 G ad a0 a1 a2 (upd t3 p0.toNatClampNeg b) t4 (sX7_occupy_5 a1 t5 p0 b (1 : Int32)) a6 a7 t8) 0 (c_X7_occupy l G ad a0 a1 a2 (upd t3 p0.toNatClampNeg b) t4 t5 a6 a7 t8 p0 b (1 : Int32) hc hb) gX7_placeFrom_X7_occupy rfl (by decide +kernel) ⟨Nat.le_of_ble_eq_true rfl, Nat.le_of_ble_eq_true rfl⟩ 0 rfl rfl rfl rfl (Nat.le_of_ble_eq_true rfl) (Nat.zero_le _) (Nat.zero_le _) dX7_placeFrom_80 ?_
                  refine s_aload_n X (pc := 83) (x := (ad 0)) 0 dX7_placeFrom_83 rfl ?_
                  refine s_iload_n X (pc := 84) (x := p0) 1 dX7_placeFrom_84 rfl ?_
                  refine s_iconst X (pc := 85) (v := 1) dX7_placeFrom_85 (by decide) ?_
                  refine s_iadd X (pc := 86) dX7_placeFrom_86 ?_
                  refine s_iload_n X (pc := 87) (x := p1) 2 dX7_placeFrom_87 rfl ?_
                  refine s_iload_n X (pc := 88) (x := b) 3 dX7_placeFrom_88 rfl ?_
                  refine s_aload_n X (pc := 89) (x := (ad 0)) 0 dX7_placeFrom_89 rfl ?_
                  refine s_get X (pc := 90) (v := .ref (ad 2)) iX7_placeFrom_at3_X7 0 rfl rfl 1 (by decide) kX7_placeFrom_at3_15 rfl rfl dX7_placeFrom_90 ?_
                  refine s_iload_n X (pc := 93) (x := p0) 1 dX7_placeFrom_93 rfl ?_
                  refine s_iald X (pc := 94) (n := 5) (f := a1) 2 rfl (by first | with_reducible assumption | exact vin (b := 5) rfl (by grind) (by grind)) dX7_placeFrom_94 ?_
                  refine s_iadd X (pc := 95) dX7_placeFrom_95 ?_
                  refine s_max X (pc := 96) kX7_placeFrom_at3_m70 kX7_placeFrom_at3_stmax kX7_placeFrom_at3_inMath kX7_placeFrom_at3_comax (Nat.le_of_ble_eq_true rfl) (Nat.le_of_ble_eq_true rfl) (Nat.zero_le _) (Nat.zero_le _) dX7_placeFrom_96 ?_
                  refine s_callSv0 X (pc := 99) (w := wX7 G ad a0 a1 a2 (upd t3 p0.toNatClampNeg b) t4 (sX7_occupy_5 a1 t5 p0 b (1 : Int32)) a6 a7 t8) (n := 3) (st := []) (As := [.ref (ad 0), .int (p0 + (1 : Int32)), .int (if p1 < (b + (a1 p0.toNatClampNeg)) then (b + (a1 p0.toNatClampNeg)) else p1)]) (w2 := wX7 G ad a0 a1 a2 ((pfX7 a0 a1 a2 a6 a7 1 (p0 + (1 : Int32)) (if p1 < (b + (a1 p0.toNatClampNeg)) then (b + (a1 p0.toNatClampNeg)) else p1) ((upd t3 p0.toNatClampNeg b), t4, (sX7_occupy_5 a1 t5 p0 b (1 : Int32)), t8)).1) ((pfX7 a0 a1 a2 a6 a7 1 (p0 + (1 : Int32)) (if p1 < (b + (a1 p0.toNatClampNeg)) then (b + (a1 p0.toNatClampNeg)) else p1) ((upd t3 p0.toNatClampNeg b), t4, (sX7_occupy_5 a1 t5 p0 b (1 : Int32)), t8)).2.1) ((pfX7 a0 a1 a2 a6 a7 1 (p0 + (1 : Int32)) (if p1 < (b + (a1 p0.toNatClampNeg)) then (b + (a1 p0.toNatClampNeg)) else p1) ((upd t3 p0.toNatClampNeg b), t4, (sX7_occupy_5 a1 t5 p0 b (1 : Int32)), t8)).2.2.1) a6 a7 ((pfX7 a0 a1 a2 a6 a7 1 (p0 + (1 : Int32)) (if p1 < (b + (a1 p0.toNatClampNeg)) then (b + (a1 p0.toNatClampNeg)) else p1) ((upd t3 p0.toNatClampNeg b), t4, (sX7_occupy_5 a1 t5 p0 b (1 : Int32)), t8)).2.2.2)) 3 (c_X7_placeFrom_at4 l G ad a0 a1 a2 (upd t3 p0.toNatClampNeg b) t4 (sX7_occupy_5 a1 t5 p0 b (1 : Int32)) a6 a7 t8 (p0 + (1 : Int32)) (if p1 < (b + (a1 p0.toNatClampNeg)) then (b + (a1 p0.toNatClampNeg)) else p1) (by rw [hp0]; rfl)) gX7_placeFrom_X7_placeFrom rfl (by decide +kernel) ⟨Nat.le_of_ble_eq_true rfl, Nat.le_of_ble_eq_true rfl⟩ rfl rfl (Nat.le_of_ble_eq_true rfl) (Nat.zero_le _) (Nat.zero_le _) dX7_placeFrom_99 ?_
                  refine s_aload_n X (pc := 102) (x := (ad 0)) 0 dX7_placeFrom_102 rfl ?_
                  refine s_iload_n X (pc := 103) (x := p0) 1 dX7_placeFrom_103 rfl ?_
                  refine s_iload_n X (pc := 104) (x := b) 3 dX7_placeFrom_104 rfl ?_
                  refine s_iconst X (pc := 105) (v := -1) dX7_placeFrom_105 (by decide) ?_
                  refine s_callVv0 X (pc := 106) (w := wX7 G ad a0 a1 a2 ((pfX7 a0 a1 a2 a6 a7 1 (p0 + (1 : Int32)) (if p1 < (b + (a1 p0.toNatClampNeg)) then (b + (a1 p0.toNatClampNeg)) else p1) ((upd t3 p0.toNatClampNeg b), t4, (sX7_occupy_5 a1 t5 p0 b (1 : Int32)), t8)).1) ((pfX7 a0 a1 a2 a6 a7 1 (p0 + (1 : Int32)) (if p1 < (b + (a1 p0.toNatClampNeg)) then (b + (a1 p0.toNatClampNeg)) else p1) ((upd t3 p0.toNatClampNeg b), t4, (sX7_occupy_5 a1 t5 p0 b (1 : Int32)), t8)).2.1) ((pfX7 a0 a1 a2 a6 a7 1 (p0 + (1 : Int32)) (if p1 < (b + (a1 p0.toNatClampNeg)) then (b + (a1 p0.toNatClampNeg)) else p1) ((upd t3 p0.toNatClampNeg b), t4, (sX7_occupy_5 a1 t5 p0 b (1 : Int32)), t8)).2.2.1) a6 a7 ((pfX7 a0 a1 a2 a6 a7 1 (p0 + (1 : Int32)) (if p1 < (b + (a1 p0.toNatClampNeg)) then (b + (a1 p0.toNatClampNeg)) else p1) ((upd t3 p0.toNatClampNeg b), t4, (sX7_occupy_5 a1 t5 p0 b (1 : Int32)), t8)).2.2.2)) (n := 3) (st := []) (As := [.int p0, .int b, .int (-1 : Int32)]) (w2 := wX7 G ad a0 a1 a2 ((pfX7 a0 a1 a2 a6 a7 1 (p0 + (1 : Int32)) (if p1 < (b + (a1 p0.toNatClampNeg)) then (b + (a1 p0.toNatClampNeg)) else p1) ((upd t3 p0.toNatClampNeg b), t4, (sX7_occupy_5 a1 t5 p0 b (1 : Int32)), t8)).1) ((pfX7 a0 a1 a2 a6 a7 1 (p0 + (1 : Int32)) (if p1 < (b + (a1 p0.toNatClampNeg)) then (b + (a1 p0.toNatClampNeg)) else p1) ((upd t3 p0.toNatClampNeg b), t4, (sX7_occupy_5 a1 t5 p0 b (1 : Int32)), t8)).2.1) (sX7_occupy_5 a1 ((pfX7 a0 a1 a2 a6 a7 1 (p0 + (1 : Int32)) (if p1 < (b + (a1 p0.toNatClampNeg)) then (b + (a1 p0.toNatClampNeg)) else p1) ((upd t3 p0.toNatClampNeg b), t4, (sX7_occupy_5 a1 t5 p0 b (1 : Int32)), t8)).2.2.1) p0 b (-1 : Int32)) a6 a7 ((pfX7 a0 a1 a2 a6 a7 1 (p0 + (1 : Int32)) (if p1 < (b + (a1 p0.toNatClampNeg)) then (b + (a1 p0.toNatClampNeg)) else p1) ((upd t3 p0.toNatClampNeg b), t4, (sX7_occupy_5 a1 t5 p0 b (1 : Int32)), t8)).2.2.2)) 0 (c_X7_occupy l G ad a0 a1 a2 ((pfX7 a0 a1 a2 a6 a7 1 (p0 + (1 : Int32)) (if p1 < (b + (a1 p0.toNatClampNeg)) then (b + (a1 p0.toNatClampNeg)) else p1) ((upd t3 p0.toNatClampNeg b), t4, (sX7_occupy_5 a1 t5 p0 b (1 : Int32)), t8)).1) ((pfX7 a0 a1 a2 a6 a7 1 (p0 + (1 : Int32)) (if p1 < (b + (a1 p0.toNatClampNeg)) then (b + (a1 p0.toNatClampNeg)) else p1) ((upd t3 p0.toNatClampNeg b), t4, (sX7_occupy_5 a1 t5 p0 b (1 : Int32)), t8)).2.1) ((pfX7 a0 a1 a2 a6 a7 1 (p0 + (1 : Int32)) (if p1 < (b + (a1 p0.toNatClampNeg)) then (b + (a1 p0.toNatClampNeg)) else p1) ((upd t3 p0.toNatClampNeg b), t4, (sX7_occupy_5 a1 t5 p0 b (1 : Int32)), t8)).2.2.1) a6 a7 ((pfX7 a0 a1 a2 a6 a7 1 (p0 + (1 : Int32)) (if p1 < (b + (a1 p0.toNatClampNeg)) then (b + (a1 p0.toNatClampNeg)) else p1) ((upd t3 p0.toNatClampNeg b), t4, (sX7_occupy_5 a1 t5 p0 b (1 : Int32)), t8)).2.2.2) p0 b (-1 : Int32) hc hb) gX7_placeFrom_X7_occupy rfl (by decide +kernel) ⟨Nat.le_of_ble_eq_true rfl, Nat.le_of_ble_eq_true rfl⟩ 0 rfl rfl rfl rfl (Nat.le_of_ble_eq_true rfl) (Nat.zero_le _) (Nat.zero_le _) dX7_placeFrom_106 ?_
                  refine s_iinc X (pc := 109) (v := b + (1 : Int32)) (lv2 := [(3, .int (b + (1 : Int32))), (0, .ref (ad 0)), (1, .int p0), (2, .int p1)]) 3 dX7_placeFrom_109 rfl rfl (by decide) rfl ?_
                  refine s_goto X (pc := 112) (tgt := 35) dX7_placeFrom_112 (by decide) ?_
                  refine s_perm (lv2 := [(0, .ref (ad 0)), (1, .int p0), (2, .int p1), (3, .int (b + (1 : Int32)))]) [1, 2, 3, 0] rfl ?_
                  exact ih35 (b + (1 : Int32)) ((pfX7 a0 a1 a2 a6 a7 1 (p0 + (1 : Int32)) (if p1 < (b + (a1 p0.toNatClampNeg)) then (b + (a1 p0.toNatClampNeg)) else p1) ((upd t3 p0.toNatClampNeg b), t4, (sX7_occupy_5 a1 t5 p0 b (1 : Int32)), t8)).1) ((pfX7 a0 a1 a2 a6 a7 1 (p0 + (1 : Int32)) (if p1 < (b + (a1 p0.toNatClampNeg)) then (b + (a1 p0.toNatClampNeg)) else p1) ((upd t3 p0.toNatClampNeg b), t4, (sX7_occupy_5 a1 t5 p0 b (1 : Int32)), t8)).2.1) (sX7_occupy_5 a1 ((pfX7 a0 a1 a2 a6 a7 1 (p0 + (1 : Int32)) (if p1 < (b + (a1 p0.toNatClampNeg)) then (b + (a1 p0.toNatClampNeg)) else p1) ((upd t3 p0.toNatClampNeg b), t4, (sX7_occupy_5 a1 t5 p0 b (1 : Int32)), t8)).2.2.1) p0 b (-1 : Int32)) ((pfX7 a0 a1 a2 a6 a7 1 (p0 + (1 : Int32)) (if p1 < (b + (a1 p0.toNatClampNeg)) then (b + (a1 p0.toNatClampNeg)) else p1) ((upd t3 p0.toNatClampNeg b), t4, (sX7_occupy_5 a1 t5 p0 b (1 : Int32)), t8)).2.2.2) (by grind) (up_lt (b := 12) rfl (by grind) hm35) (hv35.trans (show lpX7 a1 a2 a6 a7 (pfX7 a0 a1 a2 a6 a7 1 (p0 + (1 : Int32))) p0 p1 (n35 + 1) b t3 t4 t5 t8 = lpX7 a1 a2 a6 a7 (pfX7 a0 a1 a2 a6 a7 1 (p0 + (1 : Int32))) p0 p1 n35 (b + (1 : Int32)) ((pfX7 a0 a1 a2 a6 a7 1 (p0 + (1 : Int32)) (if p1 < (b + (a1 p0.toNatClampNeg)) then (b + (a1 p0.toNatClampNeg)) else p1) ((upd t3 p0.toNatClampNeg b), t4, (sX7_occupy_5 a1 t5 p0 b (1 : Int32)), t8)).1) ((pfX7 a0 a1 a2 a6 a7 1 (p0 + (1 : Int32)) (if p1 < (b + (a1 p0.toNatClampNeg)) then (b + (a1 p0.toNatClampNeg)) else p1) ((upd t3 p0.toNatClampNeg b), t4, (sX7_occupy_5 a1 t5 p0 b (1 : Int32)), t8)).2.1) (sX7_occupy_5 a1 ((pfX7 a0 a1 a2 a6 a7 1 (p0 + (1 : Int32)) (if p1 < (b + (a1 p0.toNatClampNeg)) then (b + (a1 p0.toNatClampNeg)) else p1) ((upd t3 p0.toNatClampNeg b), t4, (sX7_occupy_5 a1 t5 p0 b (1 : Int32)), t8)).2.2.1) p0 b (-1 : Int32)) ((pfX7 a0 a1 a2 a6 a7 1 (p0 + (1 : Int32)) (if p1 < (b + (a1 p0.toNatClampNeg)) then (b + (a1 p0.toNatClampNeg)) else p1) ((upd t3 p0.toNatClampNeg b), t4, (sX7_occupy_5 a1 t5 p0 b (1 : Int32)), t8)).2.2.2) from by rw [lpX7]; exact ((if_neg c38).trans ((if_neg c57).trans (if_neg c66)))))
        exact L35 13 (0 : Int32) a3 a4 a5 a8 (by decide) (m_lt (by decide)) (if_neg c21)
      ·
        refine s_aload_n X (pc := 24) (x := (ad 0)) 0 dX7_placeFrom_24 rfl ?_
        refine s_iload_n X (pc := 25) (x := p0) 1 dX7_placeFrom_25 rfl ?_
        refine s_iconst X (pc := 26) (v := 1) dX7_placeFrom_26 (by decide) ?_
        refine s_iadd X (pc := 27) dX7_placeFrom_27 ?_
        refine s_iload_n X (pc := 28) (x := p1) 2 dX7_placeFrom_28 rfl ?_
        refine s_callSv0 X (pc := 29) (w := wX7 G ad a0 a1 a2 a3 a4 a5 a6 a7 a8) (n := 3) (st := []) (As := [.ref (ad 0), .int (p0 + (1 : Int32)), .int p1]) (w2 := wX7 G ad a0 a1 a2 ((pfX7 a0 a1 a2 a6 a7 1 (p0 + (1 : Int32)) p1 (a3, a4, a5, a8)).1) ((pfX7 a0 a1 a2 a6 a7 1 (p0 + (1 : Int32)) p1 (a3, a4, a5, a8)).2.1) ((pfX7 a0 a1 a2 a6 a7 1 (p0 + (1 : Int32)) p1 (a3, a4, a5, a8)).2.2.1) a6 a7 ((pfX7 a0 a1 a2 a6 a7 1 (p0 + (1 : Int32)) p1 (a3, a4, a5, a8)).2.2.2)) 3 (c_X7_placeFrom_at4 l G ad a0 a1 a2 a3 a4 a5 a6 a7 a8 (p0 + (1 : Int32)) p1 (by rw [hp0]; rfl)) gX7_placeFrom_X7_placeFrom rfl (by decide +kernel) ⟨Nat.le_of_ble_eq_true rfl, Nat.le_of_ble_eq_true rfl⟩ rfl rfl (Nat.le_of_ble_eq_true rfl) (Nat.zero_le _) (Nat.zero_le _) dX7_placeFrom_29 ?_
        exact s_vret X (pc := 32) dX7_placeFrom_32 (by rw [show (pfX7 a0 a1 a2 a6 a7 2 p0 p1 (a3, a4, a5, a8)).1 = (pfX7 a0 a1 a2 a6 a7 1 (p0 + (1 : Int32)) p1 (a3, a4, a5, a8)).1 from (congrArg (fun z => z.1) (show pfX7 a0 a1 a2 a6 a7 2 p0 p1 (a3, a4, a5, a8) = pfX7 a0 a1 a2 a6 a7 1 (p0 + (1 : Int32)) p1 (a3, a4, a5, a8) from if_pos c21)), show (pfX7 a0 a1 a2 a6 a7 2 p0 p1 (a3, a4, a5, a8)).2.1 = (pfX7 a0 a1 a2 a6 a7 1 (p0 + (1 : Int32)) p1 (a3, a4, a5, a8)).2.1 from (congrArg (fun z => z.2.1) (show pfX7 a0 a1 a2 a6 a7 2 p0 p1 (a3, a4, a5, a8) = pfX7 a0 a1 a2 a6 a7 1 (p0 + (1 : Int32)) p1 (a3, a4, a5, a8) from if_pos c21)), show (pfX7 a0 a1 a2 a6 a7 2 p0 p1 (a3, a4, a5, a8)).2.2.1 = (pfX7 a0 a1 a2 a6 a7 1 (p0 + (1 : Int32)) p1 (a3, a4, a5, a8)).2.2.1 from (congrArg (fun z => z.2.2.1) (show pfX7 a0 a1 a2 a6 a7 2 p0 p1 (a3, a4, a5, a8) = pfX7 a0 a1 a2 a6 a7 1 (p0 + (1 : Int32)) p1 (a3, a4, a5, a8) from if_pos c21)), show (pfX7 a0 a1 a2 a6 a7 2 p0 p1 (a3, a4, a5, a8)).2.2.2 = (pfX7 a0 a1 a2 a6 a7 1 (p0 + (1 : Int32)) p1 (a3, a4, a5, a8)).2.2.2 from (congrArg (fun z => z.2.2.2) (show pfX7 a0 a1 a2 a6 a7 2 p0 p1 (a3, a4, a5, a8) = pfX7 a0 a1 a2 a6 a7 1 (p0 + (1 : Int32)) p1 (a3, a4, a5, a8) from if_pos c21))])
    ·
      exact absurd c6 (not_not_intro (by rw [hp0]; decide))

theorem iX7_placeFrom_at2_X7 : ∀ z ∈ wsX70, z ∈ wsX7_placeFrom := fun z h => List.mem_cons_of_mem _ (List.mem_append_right _ h)
theorem kX7_placeFrom_at2_9 : Cond.fieldLink RX7 9 "BathingCourt$Planner" (TX7 0).2.1 (TX7 0).2.2.1 ∈ wsX7_placeFrom := List.mem_of_getElem? (i := 1) rfl
theorem kX7_placeFrom_at2_15 : Cond.fieldLink RX7 15 "BathingCourt$Planner" (TX7 1).2.1 (TX7 1).2.2.1 ∈ wsX7_placeFrom := List.mem_of_getElem? (i := 2) rfl
theorem kX7_placeFrom_at2_m70 : Cond.methodLink RX7 70 Lib.Math.max.name ∈ wsX7_placeFrom := List.mem_of_getElem? (i := 3) rfl
theorem kX7_placeFrom_at2_stmax : Cond.static Lib.Math.max.name ∈ wsX7_placeFrom := List.mem_of_getElem? (i := 4) rfl
theorem kX7_placeFrom_at2_inMath : Cond.initialized "java/lang/Math" ∈ wsX7_placeFrom := List.mem_of_getElem? (i := 5) rfl
theorem kX7_placeFrom_at2_comax : Cond.code Lib.Math.max.name Lib.Math.max.code 2 (some .int) ∈ wsX7_placeFrom := List.mem_of_getElem? (i := 6) rfl
theorem kX7_placeFrom_at2_22 : Cond.fieldLink RX7 22 "BathingCourt$Planner" (TX7 3).2.1 (TX7 3).2.2.1 ∈ wsX7_placeFrom := List.mem_of_getElem? (i := 7) rfl
set_option maxRecDepth 100000 in
set_option maxHeartbeats 4000000 in
theorem c_X7_placeFrom_at2 (l : Launch) (G : GT) (ad : Nat → Nat) (a0 a1 a2 a3 a4 a5 : Nat → Int32) (a6 a7 a8 p0 p1 : Int32) (hp0 : p0 = 2) : Cv l G yX7_placeFrom wsX7_placeFrom (rmL 5) [.ref (ad 0), .int p0, .int p1] (wX7 G ad a0 a1 a2 a3 a4 a5 a6 a7 a8) (wX7 G ad a0 a1 a2 ((pfX7 a0 a1 a2 a6 a7 3 p0 p1 (a3, a4, a5, a8)).1) ((pfX7 a0 a1 a2 a6 a7 3 p0 p1 (a3, a4, a5, a8)).2.1) ((pfX7 a0 a1 a2 a6 a7 3 p0 p1 (a3, a4, a5, a8)).2.2.1) a6 a7 ((pfX7 a0 a1 a2 a6 a7 3 p0 p1 (a3, a4, a5, a8)).2.2.2)) := by
  refine cv_start (by decide) rfl rfl (Nat.le_of_ble_eq_true rfl) ?_
  intro p e s m args below meth c A X
  have hc : vp_in p0 5 := by rw [hp0]; exact vp_in_iff.mpr (by decide)
  refine s_perm (lv2 := [(0, .ref (ad 0)), (1, .int p0), (2, .int p1)]) [0, 1, 2] rfl ?_
  refine s_iload_n X (pc := 0) (x := p0) 1 dX7_placeFrom_0 rfl ?_
  refine s_if_lt X (pc := 1) (tgt := 9) dX7_placeFrom_1 (by decide) (fun c1 => ?_) (fun c1 => ?_)
  ·
    exact absurd c1 (by rw [hp0]; decide)
  ·
    refine s_iload_n X (pc := 4) (x := p0) 1 dX7_placeFrom_4 rfl ?_
    refine s_iconst X (pc := 5) (v := 5) dX7_placeFrom_5 (by decide) ?_
    refine s_icmp_lt X (pc := 6) (tgt := 15) dX7_placeFrom_6 (by decide) (fun c6 => ?_) (fun c6 => ?_)
    ·
      refine s_aload_n X (pc := 15) (x := (ad 0)) 0 dX7_placeFrom_15 rfl ?_
      refine s_get X (pc := 16) (v := .ref (ad 1)) iX7_placeFrom_at2_X7 0 rfl rfl 0 (by decide) kX7_placeFrom_at2_9 rfl rfl dX7_placeFrom_16 ?_
      refine s_iload_n X (pc := 19) (x := p0) 1 dX7_placeFrom_19 rfl ?_
      refine s_zald X (pc := 20) (n := 5) (f := a0) 1 rfl (by first | with_reducible assumption | exact vin (b := 5) rfl (by grind) (by grind)) dX7_placeFrom_20 ?_
      refine s_if_ne X (pc := 21) (tgt := 33) dX7_placeFrom_21 (by decide) (fun c21 => ?_) (fun c21 => ?_)
      ·
        refine s_iconst X (pc := 33) (v := 0) dX7_placeFrom_33 (by decide) ?_
        refine s_istore_n X (pc := 34) (i := 3) (lv2 := [(3, .int (0 : Int32)), (0, .ref (ad 0)), (1, .int p0), (2, .int p1)]) dX7_placeFrom_34 rfl (by decide) rfl ?_
        refine s_perm (lv2 := [(0, .ref (ad 0)), (1, .int p0), (2, .int p1), (3, .int (0 : Int32))]) [1, 2, 3, 0] rfl ?_
        have L35 : ∀ (n35 : Nat) (b : Int32) (t3 : (Nat → Int32)) (t4 : (Nat → Int32)) (t5 : (Nat → Int32)) (t8 : Int32), (0 ≤ b) → ((12 : Nat) - b.toInt).toNat < n35 → ((pfX7 a0 a1 a2 a6 a7 3 p0 p1 (a3, a4, a5, a8)).1, (pfX7 a0 a1 a2 a6 a7 3 p0 p1 (a3, a4, a5, a8)).2.1, (pfX7 a0 a1 a2 a6 a7 3 p0 p1 (a3, a4, a5, a8)).2.2.1, (pfX7 a0 a1 a2 a6 a7 3 p0 p1 (a3, a4, a5, a8)).2.2.2) = lpX7 a1 a2 a6 a7 (pfX7 a0 a1 a2 a6 a7 2 (p0 + (1 : Int32))) p0 p1 n35 b t3 t4 t5 t8 → Sm p l e (rmL 5) s m args below meth c G A 4 0 0 (Qcv below G A args s (wX7 G ad a0 a1 a2 ((pfX7 a0 a1 a2 a6 a7 3 p0 p1 (a3, a4, a5, a8)).1) ((pfX7 a0 a1 a2 a6 a7 3 p0 p1 (a3, a4, a5, a8)).2.1) ((pfX7 a0 a1 a2 a6 a7 3 p0 p1 (a3, a4, a5, a8)).2.2.1) a6 a7 ((pfX7 a0 a1 a2 a6 a7 3 p0 p1 (a3, a4, a5, a8)).2.2.2))) 35 [(0, .ref (ad 0)), (1, .int p0), (2, .int p1), (3, .int b)] [] (wX7 G ad a0 a1 a2 t3 t4 t5 a6 a7 t8) := by
          intro n35
          induction n35 with
          | zero => intro b t3 t4 t5 t8 hb hm35 hv35; exact absurd hm35 (Nat.not_lt_zero _)
          | succ n35 ih35 =>
            intro b t3 t4 t5 t8 hb hm35 hv35
            refine s_iload_n X (pc := 35) (x := b) 3 dX7_placeFrom_35 rfl ?_
            refine s_bipush X (pc := 36) (v := 12) dX7_placeFrom_36 (by decide) ?_
            refine s_icmp_ge X (pc := 38) (tgt := 115) dX7_placeFrom_38 (by decide) (fun c38 => ?_) (fun c38 => ?_)
            ·
              exact s_vret X (pc := 115) dX7_placeFrom_115 (by rw [show (pfX7 a0 a1 a2 a6 a7 3 p0 p1 (a3, a4, a5, a8)).1 = t3 from (congrArg (fun z => z.1) (hv35.trans (if_pos c38))), show (pfX7 a0 a1 a2 a6 a7 3 p0 p1 (a3, a4, a5, a8)).2.1 = t4 from (congrArg (fun z => z.2.1) (hv35.trans (if_pos c38))), show (pfX7 a0 a1 a2 a6 a7 3 p0 p1 (a3, a4, a5, a8)).2.2.1 = t5 from (congrArg (fun z => z.2.2.1) (hv35.trans (if_pos c38))), show (pfX7 a0 a1 a2 a6 a7 3 p0 p1 (a3, a4, a5, a8)).2.2.2 = t8 from (congrArg (fun z => z.2.2.2) (hv35.trans (if_pos c38)))])
            ·
              refine s_aload_n X (pc := 41) (x := (ad 0)) 0 dX7_placeFrom_41 rfl ?_
              refine s_iload_n X (pc := 42) (x := p1) 2 dX7_placeFrom_42 rfl ?_
              refine s_iload_n X (pc := 43) (x := b) 3 dX7_placeFrom_43 rfl ?_
              refine s_aload_n X (pc := 44) (x := (ad 0)) 0 dX7_placeFrom_44 rfl ?_
              refine s_get X (pc := 45) (v := .ref (ad 2)) iX7_placeFrom_at2_X7 0 rfl rfl 1 (by decide) kX7_placeFrom_at2_15 rfl rfl dX7_placeFrom_45 ?_
              refine s_iload_n X (pc := 48) (x := p0) 1 dX7_placeFrom_48 rfl ?_
              refine s_iald X (pc := 49) (n := 5) (f := a1) 2 rfl (by first | with_reducible assumption | exact vin (b := 5) rfl (by grind) (by grind)) dX7_placeFrom_49 ?_
              refine s_iadd X (pc := 50) dX7_placeFrom_50 ?_
              refine s_max X (pc := 51) kX7_placeFrom_at2_m70 kX7_placeFrom_at2_stmax kX7_placeFrom_at2_inMath kX7_placeFrom_at2_comax (Nat.le_of_ble_eq_true rfl) (Nat.le_of_ble_eq_true rfl) (Nat.zero_le _) (Nat.zero_le _) dX7_placeFrom_51 ?_
              refine s_callVi0 X (pc := 54) (r := rX7_canBeSooner a7 t8 (if p1 < (b + (a1 p0.toNatClampNeg)) then (b + (a1 p0.toNatClampNeg)) else p1)) (w := wX7 G ad a0 a1 a2 t3 t4 t5 a6 a7 t8) (n := 1) (st := []) (As := [.int (if p1 < (b + (a1 p0.toNatClampNeg)) then (b + (a1 p0.toNatClampNeg)) else p1)]) (w2 := wX7 G ad a0 a1 a2 t3 t4 t5 a6 a7 t8) 0 (c_X7_canBeSooner l G ad a0 a1 a2 t3 t4 t5 a6 a7 t8 (if p1 < (b + (a1 p0.toNatClampNeg)) then (b + (a1 p0.toNatClampNeg)) else p1)) gX7_placeFrom_X7_canBeSooner rfl (by decide +kernel) ⟨Nat.le_of_ble_eq_true rfl, Nat.le_of_ble_eq_true rfl⟩ 0 rfl rfl rfl rfl (Nat.le_of_ble_eq_true rfl) (Nat.zero_le _) (Nat.zero_le _) dX7_placeFrom_54 ?_
              refine s_if_eq X (pc := 57) (tgt := 115) dX7_placeFrom_57 (by decide) (fun c57 => ?_) (fun c57 => ?_)
              ·
                exact s_vret X (pc := 115) dX7_placeFrom_115 (by rw [show (pfX7 a0 a1 a2 a6 a7 3 p0 p1 (a3, a4, a5, a8)).1 = t3 from (congrArg (fun z => z.1) (hv35.trans ((if_neg c38).trans (if_pos c57)))), show (pfX7 a0 a1 a2 a6 a7 3 p0 p1 (a3, a4, a5, a8)).2.1 = t4 from (congrArg (fun z => z.2.1) (hv35.trans ((if_neg c38).trans (if_pos c57)))), show (pfX7 a0 a1 a2 a6 a7 3 p0 p1 (a3, a4, a5, a8)).2.2.1 = t5 from (congrArg (fun z => z.2.2.1) (hv35.trans ((if_neg c38).trans (if_pos c57)))), show (pfX7 a0 a1 a2 a6 a7 3 p0 p1 (a3, a4, a5, a8)).2.2.2 = t8 from (congrArg (fun z => z.2.2.2) (hv35.trans ((if_neg c38).trans (if_pos c57))))])
              ·
                refine s_aload_n X (pc := 60) (x := (ad 0)) 0 dX7_placeFrom_60 rfl ?_
                refine s_iload_n X (pc := 61) (x := p0) 1 dX7_placeFrom_61 rfl ?_
                refine s_iload_n X (pc := 62) (x := b) 3 dX7_placeFrom_62 rfl ?_
                refine s_callVi0 X (pc := 63) (r := rX7_fits a1 a2 t5 a6 p0 b) (w := wX7 G ad a0 a1 a2 t3 t4 t5 a6 a7 t8) (n := 2) (st := []) (As := [.int p0, .int b]) (w2 := wX7 G ad a0 a1 a2 t3 t4 t5 a6 a7 t8) 0 (c_X7_fits l G ad a0 a1 a2 t3 t4 t5 a6 a7 t8 p0 b hc hb) gX7_placeFrom_X7_fits rfl (by decide +kernel) ⟨Nat.le_of_ble_eq_true rfl, Nat.le_of_ble_eq_true rfl⟩ 0 rfl rfl rfl rfl (Nat.le_of_ble_eq_true rfl) (Nat.zero_le _) (Nat.zero_le _) dX7_placeFrom_63 ?_
                refine s_if_eq X (pc := 66) (tgt := 109) dX7_placeFrom_66 (by decide) (fun c66 => ?_) (fun c66 => ?_)
                ·
                  refine s_iinc X (pc := 109) (v := b + (1 : Int32)) (lv2 := [(3, .int (b + (1 : Int32))), (0, .ref (ad 0)), (1, .int p0), (2, .int p1)]) 3 dX7_placeFrom_109 rfl rfl (by decide) rfl ?_
                  refine s_goto X (pc := 112) (tgt := 35) dX7_placeFrom_112 (by decide) ?_
                  refine s_perm (lv2 := [(0, .ref (ad 0)), (1, .int p0), (2, .int p1), (3, .int (b + (1 : Int32)))]) [1, 2, 3, 0] rfl ?_
                  exact ih35 (b + (1 : Int32)) t3 t4 t5 t8 (by grind) (up_lt (b := 12) rfl (by grind) hm35) (hv35.trans (show lpX7 a1 a2 a6 a7 (pfX7 a0 a1 a2 a6 a7 2 (p0 + (1 : Int32))) p0 p1 (n35 + 1) b t3 t4 t5 t8 = lpX7 a1 a2 a6 a7 (pfX7 a0 a1 a2 a6 a7 2 (p0 + (1 : Int32))) p0 p1 n35 (b + (1 : Int32)) t3 t4 t5 t8 from by rw [lpX7]; exact ((if_neg c38).trans ((if_neg c57).trans (if_pos c66)))))
                ·
                  refine s_aload_n X (pc := 69) (x := (ad 0)) 0 dX7_placeFrom_69 rfl ?_
                  refine s_get X (pc := 70) (v := .ref (ad 4)) iX7_placeFrom_at2_X7 0 rfl rfl 3 (by decide) kX7_placeFrom_at2_22 rfl rfl dX7_placeFrom_70 ?_
                  refine s_iload_n X (pc := 73) (x := p0) 1 dX7_placeFrom_73 rfl ?_
                  refine s_iload_n X (pc := 74) (x := b) 3 dX7_placeFrom_74 rfl ?_
                  refine s_iast X (pc := 75) (n := 5) (f := t3) (w2 := wX7 G ad a0 a1 a2 (upd t3 p0.toNatClampNeg b) t4 t5 a6 a7 t8) 4 rfl (by first | with_reducible assumption | exact vin (b := 5) rfl (by grind) (by grind)) rfl dX7_placeFrom_75 ?_
                  refine s_aload_n X (pc := 76) (x := (ad 0)) 0 dX7_placeFrom_76 rfl ?_
                  refine s_iload_n X (pc := 77) (x := p0) 1 dX7_placeFrom_77 rfl ?_
                  refine s_iload_n X (pc := 78) (x := b) 3 dX7_placeFrom_78 rfl ?_
                  refine s_iconst X (pc := 79) (v := 1) dX7_placeFrom_79 (by decide) ?_
                  refine s_callVv0 X (pc := 80) (w := wX7 G ad a0 a1 a2 (upd t3 p0.toNatClampNeg b) t4 t5 a6 a7 t8) (n := 3) (st := []) (As := [.int p0, .int b, .int (1 : Int32)]) (w2 := wX7 G ad a0 a1 a2 (upd t3 p0.toNatClampNeg b) t4 (sX7_occupy_5 a1 t5 p0 b (1 : Int32)) a6 a7 t8) 0 (c_X7_occupy l G ad a0 a1 a2 (upd t3 p0.toNatClampNeg b) t4 t5 a6 a7 t8 p0 b (1 : Int32) hc hb) gX7_placeFrom_X7_occupy rfl (by decide +kernel) ⟨Nat.le_of_ble_eq_true rfl, Nat.le_of_ble_eq_true rfl⟩ 0 rfl rfl rfl rfl (Nat.le_of_ble_eq_true rfl) (Nat.zero_le _) (Nat.zero_le _) dX7_placeFrom_80 ?_
                  refine s_aload_n X (pc := 83) (x := (ad 0)) 0 dX7_placeFrom_83 rfl ?_
                  refine s_iload_n X (pc := 84) (x := p0) 1 dX7_placeFrom_84 rfl ?_
                  refine s_iconst X (pc := 85) (v := 1) dX7_placeFrom_85 (by decide) ?_
                  refine s_iadd X (pc := 86) dX7_placeFrom_86 ?_
                  refine s_iload_n X (pc := 87) (x := p1) 2 dX7_placeFrom_87 rfl ?_
                  refine s_iload_n X (pc := 88) (x := b) 3 dX7_placeFrom_88 rfl ?_
                  refine s_aload_n X (pc := 89) (x := (ad 0)) 0 dX7_placeFrom_89 rfl ?_
                  refine s_get X (pc := 90) (v := .ref (ad 2)) iX7_placeFrom_at2_X7 0 rfl rfl 1 (by decide) kX7_placeFrom_at2_15 rfl rfl dX7_placeFrom_90 ?_
                  refine s_iload_n X (pc := 93) (x := p0) 1 dX7_placeFrom_93 rfl ?_
                  refine s_iald X (pc := 94) (n := 5) (f := a1) 2 rfl (by first | with_reducible assumption | exact vin (b := 5) rfl (by grind) (by grind)) dX7_placeFrom_94 ?_
                  refine s_iadd X (pc := 95) dX7_placeFrom_95 ?_
                  refine s_max X (pc := 96) kX7_placeFrom_at2_m70 kX7_placeFrom_at2_stmax kX7_placeFrom_at2_inMath kX7_placeFrom_at2_comax (Nat.le_of_ble_eq_true rfl) (Nat.le_of_ble_eq_true rfl) (Nat.zero_le _) (Nat.zero_le _) dX7_placeFrom_96 ?_
                  refine s_callSv0 X (pc := 99) (w := wX7 G ad a0 a1 a2 (upd t3 p0.toNatClampNeg b) t4 (sX7_occupy_5 a1 t5 p0 b (1 : Int32)) a6 a7 t8) (n := 3) (st := []) (As := [.ref (ad 0), .int (p0 + (1 : Int32)), .int (if p1 < (b + (a1 p0.toNatClampNeg)) then (b + (a1 p0.toNatClampNeg)) else p1)]) (w2 := wX7 G ad a0 a1 a2 ((pfX7 a0 a1 a2 a6 a7 2 (p0 + (1 : Int32)) (if p1 < (b + (a1 p0.toNatClampNeg)) then (b + (a1 p0.toNatClampNeg)) else p1) ((upd t3 p0.toNatClampNeg b), t4, (sX7_occupy_5 a1 t5 p0 b (1 : Int32)), t8)).1) ((pfX7 a0 a1 a2 a6 a7 2 (p0 + (1 : Int32)) (if p1 < (b + (a1 p0.toNatClampNeg)) then (b + (a1 p0.toNatClampNeg)) else p1) ((upd t3 p0.toNatClampNeg b), t4, (sX7_occupy_5 a1 t5 p0 b (1 : Int32)), t8)).2.1) ((pfX7 a0 a1 a2 a6 a7 2 (p0 + (1 : Int32)) (if p1 < (b + (a1 p0.toNatClampNeg)) then (b + (a1 p0.toNatClampNeg)) else p1) ((upd t3 p0.toNatClampNeg b), t4, (sX7_occupy_5 a1 t5 p0 b (1 : Int32)), t8)).2.2.1) a6 a7 ((pfX7 a0 a1 a2 a6 a7 2 (p0 + (1 : Int32)) (if p1 < (b + (a1 p0.toNatClampNeg)) then (b + (a1 p0.toNatClampNeg)) else p1) ((upd t3 p0.toNatClampNeg b), t4, (sX7_occupy_5 a1 t5 p0 b (1 : Int32)), t8)).2.2.2)) 4 (c_X7_placeFrom_at3 l G ad a0 a1 a2 (upd t3 p0.toNatClampNeg b) t4 (sX7_occupy_5 a1 t5 p0 b (1 : Int32)) a6 a7 t8 (p0 + (1 : Int32)) (if p1 < (b + (a1 p0.toNatClampNeg)) then (b + (a1 p0.toNatClampNeg)) else p1) (by rw [hp0]; rfl)) gX7_placeFrom_X7_placeFrom rfl (by decide +kernel) ⟨Nat.le_of_ble_eq_true rfl, Nat.le_of_ble_eq_true rfl⟩ rfl rfl (Nat.le_of_ble_eq_true rfl) (Nat.zero_le _) (Nat.zero_le _) dX7_placeFrom_99 ?_
                  refine s_aload_n X (pc := 102) (x := (ad 0)) 0 dX7_placeFrom_102 rfl ?_
                  refine s_iload_n X (pc := 103) (x := p0) 1 dX7_placeFrom_103 rfl ?_
                  refine s_iload_n X (pc := 104) (x := b) 3 dX7_placeFrom_104 rfl ?_
                  refine s_iconst X (pc := 105) (v := -1) dX7_placeFrom_105 (by decide) ?_
                  refine s_callVv0 X (pc := 106) (w := wX7 G ad a0 a1 a2 ((pfX7 a0 a1 a2 a6 a7 2 (p0 + (1 : Int32)) (if p1 < (b + (a1 p0.toNatClampNeg)) then (b + (a1 p0.toNatClampNeg)) else p1) ((upd t3 p0.toNatClampNeg b), t4, (sX7_occupy_5 a1 t5 p0 b (1 : Int32)), t8)).1) ((pfX7 a0 a1 a2 a6 a7 2 (p0 + (1 : Int32)) (if p1 < (b + (a1 p0.toNatClampNeg)) then (b + (a1 p0.toNatClampNeg)) else p1) ((upd t3 p0.toNatClampNeg b), t4, (sX7_occupy_5 a1 t5 p0 b (1 : Int32)), t8)).2.1) ((pfX7 a0 a1 a2 a6 a7 2 (p0 + (1 : Int32)) (if p1 < (b + (a1 p0.toNatClampNeg)) then (b + (a1 p0.toNatClampNeg)) else p1) ((upd t3 p0.toNatClampNeg b), t4, (sX7_occupy_5 a1 t5 p0 b (1 : Int32)), t8)).2.2.1) a6 a7 ((pfX7 a0 a1 a2 a6 a7 2 (p0 + (1 : Int32)) (if p1 < (b + (a1 p0.toNatClampNeg)) then (b + (a1 p0.toNatClampNeg)) else p1) ((upd t3 p0.toNatClampNeg b), t4, (sX7_occupy_5 a1 t5 p0 b (1 : Int32)), t8)).2.2.2)) (n := 3) (st := []) (As := [.int p0, .int b, .int (-1 : Int32)]) (w2 := wX7 G ad a0 a1 a2 ((pfX7 a0 a1 a2 a6 a7 2 (p0 + (1 : Int32)) (if p1 < (b + (a1 p0.toNatClampNeg)) then (b + (a1 p0.toNatClampNeg)) else p1) ((upd t3 p0.toNatClampNeg b), t4, (sX7_occupy_5 a1 t5 p0 b (1 : Int32)), t8)).1) ((pfX7 a0 a1 a2 a6 a7 2 (p0 + (1 : Int32)) (if p1 < (b + (a1 p0.toNatClampNeg)) then (b + (a1 p0.toNatClampNeg)) else p1) ((upd t3 p0.toNatClampNeg b), t4, (sX7_occupy_5 a1 t5 p0 b (1 : Int32)), t8)).2.1) (sX7_occupy_5 a1 ((pfX7 a0 a1 a2 a6 a7 2 (p0 + (1 : Int32)) (if p1 < (b + (a1 p0.toNatClampNeg)) then (b + (a1 p0.toNatClampNeg)) else p1) ((upd t3 p0.toNatClampNeg b), t4, (sX7_occupy_5 a1 t5 p0 b (1 : Int32)), t8)).2.2.1) p0 b (-1 : Int32)) a6 a7 ((pfX7 a0 a1 a2 a6 a7 2 (p0 + (1 : Int32)) (if p1 < (b + (a1 p0.toNatClampNeg)) then (b + (a1 p0.toNatClampNeg)) else p1) ((upd t3 p0.toNatClampNeg b), t4, (sX7_occupy_5 a1 t5 p0 b (1 : Int32)), t8)).2.2.2)) 0 (c_X7_occupy l G ad a0 a1 a2 ((pfX7 a0 a1 a2 a6 a7 2 (p0 + (1 : Int32)) (if p1 < (b + (a1 p0.toNatClampNeg)) then (b + (a1 p0.toNatClampNeg)) else p1) ((upd t3 p0.toNatClampNeg b), t4, (sX7_occupy_5 a1 t5 p0 b (1 : Int32)), t8)).1) ((pfX7 a0 a1 a2 a6 a7 2 (p0 + (1 : Int32)) (if p1 < (b + (a1 p0.toNatClampNeg)) then (b + (a1 p0.toNatClampNeg)) else p1) ((upd t3 p0.toNatClampNeg b), t4, (sX7_occupy_5 a1 t5 p0 b (1 : Int32)), t8)).2.1) ((pfX7 a0 a1 a2 a6 a7 2 (p0 + (1 : Int32)) (if p1 < (b + (a1 p0.toNatClampNeg)) then (b + (a1 p0.toNatClampNeg)) else p1) ((upd t3 p0.toNatClampNeg b), t4, (sX7_occupy_5 a1 t5 p0 b (1 : Int32)), t8)).2.2.1) a6 a7 ((pfX7 a0 a1 a2 a6 a7 2 (p0 + (1 : Int32)) (if p1 < (b + (a1 p0.toNatClampNeg)) then (b + (a1 p0.toNatClampNeg)) else p1) ((upd t3 p0.toNatClampNeg b), t4, (sX7_occupy_5 a1 t5 p0 b (1 : Int32)), t8)).2.2.2) p0 b (-1 : Int32) hc hb) gX7_placeFrom_X7_occupy rfl (by decide +kernel) ⟨Nat.le_of_ble_eq_true rfl, Nat.le_of_ble_eq_true rfl⟩ 0 rfl rfl rfl rfl (Nat.le_of_ble_eq_true rfl) (Nat.zero_le _) (Nat.zero_le _) dX7_placeFrom_106 ?_
                  refine s_iinc X (pc := 109) (v := b + (1 : Int32)) (lv2 := [(3, .int (b + (1 : Int32))), (0, .ref (ad 0)), (1, .int p0), (2, .int p1)]) 3 dX7_placeFrom_109 rfl rfl (by decide) rfl ?_
                  refine s_goto X (pc := 112) (tgt := 35) dX7_placeFrom_112 (by decide) ?_
                  refine s_perm (lv2 := [(0, .ref (ad 0)), (1, .int p0), (2, .int p1), (3, .int (b + (1 : Int32)))]) [1, 2, 3, 0] rfl ?_
                  exact ih35 (b + (1 : Int32)) ((pfX7 a0 a1 a2 a6 a7 2 (p0 + (1 : Int32)) (if p1 < (b + (a1 p0.toNatClampNeg)) then (b + (a1 p0.toNatClampNeg)) else p1) ((upd t3 p0.toNatClampNeg b), t4, (sX7_occupy_5 a1 t5 p0 b (1 : Int32)), t8)).1) ((pfX7 a0 a1 a2 a6 a7 2 (p0 + (1 : Int32)) (if p1 < (b + (a1 p0.toNatClampNeg)) then (b + (a1 p0.toNatClampNeg)) else p1) ((upd t3 p0.toNatClampNeg b), t4, (sX7_occupy_5 a1 t5 p0 b (1 : Int32)), t8)).2.1) (sX7_occupy_5 a1 ((pfX7 a0 a1 a2 a6 a7 2 (p0 + (1 : Int32)) (if p1 < (b + (a1 p0.toNatClampNeg)) then (b + (a1 p0.toNatClampNeg)) else p1) ((upd t3 p0.toNatClampNeg b), t4, (sX7_occupy_5 a1 t5 p0 b (1 : Int32)), t8)).2.2.1) p0 b (-1 : Int32)) ((pfX7 a0 a1 a2 a6 a7 2 (p0 + (1 : Int32)) (if p1 < (b + (a1 p0.toNatClampNeg)) then (b + (a1 p0.toNatClampNeg)) else p1) ((upd t3 p0.toNatClampNeg b), t4, (sX7_occupy_5 a1 t5 p0 b (1 : Int32)), t8)).2.2.2) (by grind) (up_lt (b := 12) rfl (by grind) hm35) (hv35.trans (show lpX7 a1 a2 a6 a7 (pfX7 a0 a1 a2 a6 a7 2 (p0 + (1 : Int32))) p0 p1 (n35 + 1) b t3 t4 t5 t8 = lpX7 a1 a2 a6 a7 (pfX7 a0 a1 a2 a6 a7 2 (p0 + (1 : Int32))) p0 p1 n35 (b + (1 : Int32)) ((pfX7 a0 a1 a2 a6 a7 2 (p0 + (1 : Int32)) (if p1 < (b + (a1 p0.toNatClampNeg)) then (b + (a1 p0.toNatClampNeg)) else p1) ((upd t3 p0.toNatClampNeg b), t4, (sX7_occupy_5 a1 t5 p0 b (1 : Int32)), t8)).1) ((pfX7 a0 a1 a2 a6 a7 2 (p0 + (1 : Int32)) (if p1 < (b + (a1 p0.toNatClampNeg)) then (b + (a1 p0.toNatClampNeg)) else p1) ((upd t3 p0.toNatClampNeg b), t4, (sX7_occupy_5 a1 t5 p0 b (1 : Int32)), t8)).2.1) (sX7_occupy_5 a1 ((pfX7 a0 a1 a2 a6 a7 2 (p0 + (1 : Int32)) (if p1 < (b + (a1 p0.toNatClampNeg)) then (b + (a1 p0.toNatClampNeg)) else p1) ((upd t3 p0.toNatClampNeg b), t4, (sX7_occupy_5 a1 t5 p0 b (1 : Int32)), t8)).2.2.1) p0 b (-1 : Int32)) ((pfX7 a0 a1 a2 a6 a7 2 (p0 + (1 : Int32)) (if p1 < (b + (a1 p0.toNatClampNeg)) then (b + (a1 p0.toNatClampNeg)) else p1) ((upd t3 p0.toNatClampNeg b), t4, (sX7_occupy_5 a1 t5 p0 b (1 : Int32)), t8)).2.2.2) from by rw [lpX7]; exact ((if_neg c38).trans ((if_neg c57).trans (if_neg c66)))))
        exact L35 13 (0 : Int32) a3 a4 a5 a8 (by decide) (m_lt (by decide)) (if_neg c21)
      ·
        refine s_aload_n X (pc := 24) (x := (ad 0)) 0 dX7_placeFrom_24 rfl ?_
        refine s_iload_n X (pc := 25) (x := p0) 1 dX7_placeFrom_25 rfl ?_
        refine s_iconst X (pc := 26) (v := 1) dX7_placeFrom_26 (by decide) ?_
        refine s_iadd X (pc := 27) dX7_placeFrom_27 ?_
        refine s_iload_n X (pc := 28) (x := p1) 2 dX7_placeFrom_28 rfl ?_
        refine s_callSv0 X (pc := 29) (w := wX7 G ad a0 a1 a2 a3 a4 a5 a6 a7 a8) (n := 3) (st := []) (As := [.ref (ad 0), .int (p0 + (1 : Int32)), .int p1]) (w2 := wX7 G ad a0 a1 a2 ((pfX7 a0 a1 a2 a6 a7 2 (p0 + (1 : Int32)) p1 (a3, a4, a5, a8)).1) ((pfX7 a0 a1 a2 a6 a7 2 (p0 + (1 : Int32)) p1 (a3, a4, a5, a8)).2.1) ((pfX7 a0 a1 a2 a6 a7 2 (p0 + (1 : Int32)) p1 (a3, a4, a5, a8)).2.2.1) a6 a7 ((pfX7 a0 a1 a2 a6 a7 2 (p0 + (1 : Int32)) p1 (a3, a4, a5, a8)).2.2.2)) 4 (c_X7_placeFrom_at3 l G ad a0 a1 a2 a3 a4 a5 a6 a7 a8 (p0 + (1 : Int32)) p1 (by rw [hp0]; rfl)) gX7_placeFrom_X7_placeFrom rfl (by decide +kernel) ⟨Nat.le_of_ble_eq_true rfl, Nat.le_of_ble_eq_true rfl⟩ rfl rfl (Nat.le_of_ble_eq_true rfl) (Nat.zero_le _) (Nat.zero_le _) dX7_placeFrom_29 ?_
        exact s_vret X (pc := 32) dX7_placeFrom_32 (by rw [show (pfX7 a0 a1 a2 a6 a7 3 p0 p1 (a3, a4, a5, a8)).1 = (pfX7 a0 a1 a2 a6 a7 2 (p0 + (1 : Int32)) p1 (a3, a4, a5, a8)).1 from (congrArg (fun z => z.1) (show pfX7 a0 a1 a2 a6 a7 3 p0 p1 (a3, a4, a5, a8) = pfX7 a0 a1 a2 a6 a7 2 (p0 + (1 : Int32)) p1 (a3, a4, a5, a8) from if_pos c21)), show (pfX7 a0 a1 a2 a6 a7 3 p0 p1 (a3, a4, a5, a8)).2.1 = (pfX7 a0 a1 a2 a6 a7 2 (p0 + (1 : Int32)) p1 (a3, a4, a5, a8)).2.1 from (congrArg (fun z => z.2.1) (show pfX7 a0 a1 a2 a6 a7 3 p0 p1 (a3, a4, a5, a8) = pfX7 a0 a1 a2 a6 a7 2 (p0 + (1 : Int32)) p1 (a3, a4, a5, a8) from if_pos c21)), show (pfX7 a0 a1 a2 a6 a7 3 p0 p1 (a3, a4, a5, a8)).2.2.1 = (pfX7 a0 a1 a2 a6 a7 2 (p0 + (1 : Int32)) p1 (a3, a4, a5, a8)).2.2.1 from (congrArg (fun z => z.2.2.1) (show pfX7 a0 a1 a2 a6 a7 3 p0 p1 (a3, a4, a5, a8) = pfX7 a0 a1 a2 a6 a7 2 (p0 + (1 : Int32)) p1 (a3, a4, a5, a8) from if_pos c21)), show (pfX7 a0 a1 a2 a6 a7 3 p0 p1 (a3, a4, a5, a8)).2.2.2 = (pfX7 a0 a1 a2 a6 a7 2 (p0 + (1 : Int32)) p1 (a3, a4, a5, a8)).2.2.2 from (congrArg (fun z => z.2.2.2) (show pfX7 a0 a1 a2 a6 a7 3 p0 p1 (a3, a4, a5, a8) = pfX7 a0 a1 a2 a6 a7 2 (p0 + (1 : Int32)) p1 (a3, a4, a5, a8) from if_pos c21))])
    ·
      exact absurd c6 (not_not_intro (by rw [hp0]; decide))

theorem iX7_placeFrom_at1_X7 : ∀ z ∈ wsX70, z ∈ wsX7_placeFrom := fun z h => List.mem_cons_of_mem _ (List.mem_append_right _ h)
theorem kX7_placeFrom_at1_9 : Cond.fieldLink RX7 9 "BathingCourt$Planner" (TX7 0).2.1 (TX7 0).2.2.1 ∈ wsX7_placeFrom := List.mem_of_getElem? (i := 1) rfl
theorem kX7_placeFrom_at1_15 : Cond.fieldLink RX7 15 "BathingCourt$Planner" (TX7 1).2.1 (TX7 1).2.2.1 ∈ wsX7_placeFrom := List.mem_of_getElem? (i := 2) rfl
theorem kX7_placeFrom_at1_m70 : Cond.methodLink RX7 70 Lib.Math.max.name ∈ wsX7_placeFrom := List.mem_of_getElem? (i := 3) rfl
theorem kX7_placeFrom_at1_stmax : Cond.static Lib.Math.max.name ∈ wsX7_placeFrom := List.mem_of_getElem? (i := 4) rfl
theorem kX7_placeFrom_at1_inMath : Cond.initialized "java/lang/Math" ∈ wsX7_placeFrom := List.mem_of_getElem? (i := 5) rfl
theorem kX7_placeFrom_at1_comax : Cond.code Lib.Math.max.name Lib.Math.max.code 2 (some .int) ∈ wsX7_placeFrom := List.mem_of_getElem? (i := 6) rfl
theorem kX7_placeFrom_at1_22 : Cond.fieldLink RX7 22 "BathingCourt$Planner" (TX7 3).2.1 (TX7 3).2.2.1 ∈ wsX7_placeFrom := List.mem_of_getElem? (i := 7) rfl
set_option maxRecDepth 100000 in
set_option maxHeartbeats 4000000 in
theorem c_X7_placeFrom_at1 (l : Launch) (G : GT) (ad : Nat → Nat) (a0 a1 a2 a3 a4 a5 : Nat → Int32) (a6 a7 a8 p0 p1 : Int32) (hp0 : p0 = 1) : Cv l G yX7_placeFrom wsX7_placeFrom (rmL 6) [.ref (ad 0), .int p0, .int p1] (wX7 G ad a0 a1 a2 a3 a4 a5 a6 a7 a8) (wX7 G ad a0 a1 a2 ((pfX7 a0 a1 a2 a6 a7 4 p0 p1 (a3, a4, a5, a8)).1) ((pfX7 a0 a1 a2 a6 a7 4 p0 p1 (a3, a4, a5, a8)).2.1) ((pfX7 a0 a1 a2 a6 a7 4 p0 p1 (a3, a4, a5, a8)).2.2.1) a6 a7 ((pfX7 a0 a1 a2 a6 a7 4 p0 p1 (a3, a4, a5, a8)).2.2.2)) := by
  refine cv_start (by decide) rfl rfl (Nat.le_of_ble_eq_true rfl) ?_
  intro p e s m args below meth c A X
  have hc : vp_in p0 5 := by rw [hp0]; exact vp_in_iff.mpr (by decide)
  refine s_perm (lv2 := [(0, .ref (ad 0)), (1, .int p0), (2, .int p1)]) [0, 1, 2] rfl ?_
  refine s_iload_n X (pc := 0) (x := p0) 1 dX7_placeFrom_0 rfl ?_
  refine s_if_lt X (pc := 1) (tgt := 9) dX7_placeFrom_1 (by decide) (fun c1 => ?_) (fun c1 => ?_)
  ·
    exact absurd c1 (by rw [hp0]; decide)
  ·
    refine s_iload_n X (pc := 4) (x := p0) 1 dX7_placeFrom_4 rfl ?_
    refine s_iconst X (pc := 5) (v := 5) dX7_placeFrom_5 (by decide) ?_
    refine s_icmp_lt X (pc := 6) (tgt := 15) dX7_placeFrom_6 (by decide) (fun c6 => ?_) (fun c6 => ?_)
    ·
      refine s_aload_n X (pc := 15) (x := (ad 0)) 0 dX7_placeFrom_15 rfl ?_
      refine s_get X (pc := 16) (v := .ref (ad 1)) iX7_placeFrom_at1_X7 0 rfl rfl 0 (by decide) kX7_placeFrom_at1_9 rfl rfl dX7_placeFrom_16 ?_
      refine s_iload_n X (pc := 19) (x := p0) 1 dX7_placeFrom_19 rfl ?_
      refine s_zald X (pc := 20) (n := 5) (f := a0) 1 rfl (by first | with_reducible assumption | exact vin (b := 5) rfl (by grind) (by grind)) dX7_placeFrom_20 ?_
      refine s_if_ne X (pc := 21) (tgt := 33) dX7_placeFrom_21 (by decide) (fun c21 => ?_) (fun c21 => ?_)
      ·
        refine s_iconst X (pc := 33) (v := 0) dX7_placeFrom_33 (by decide) ?_
        refine s_istore_n X (pc := 34) (i := 3) (lv2 := [(3, .int (0 : Int32)), (0, .ref (ad 0)), (1, .int p0), (2, .int p1)]) dX7_placeFrom_34 rfl (by decide) rfl ?_
        refine s_perm (lv2 := [(0, .ref (ad 0)), (1, .int p0), (2, .int p1), (3, .int (0 : Int32))]) [1, 2, 3, 0] rfl ?_
        have L35 : ∀ (n35 : Nat) (b : Int32) (t3 : (Nat → Int32)) (t4 : (Nat → Int32)) (t5 : (Nat → Int32)) (t8 : Int32), (0 ≤ b) → ((12 : Nat) - b.toInt).toNat < n35 → ((pfX7 a0 a1 a2 a6 a7 4 p0 p1 (a3, a4, a5, a8)).1, (pfX7 a0 a1 a2 a6 a7 4 p0 p1 (a3, a4, a5, a8)).2.1, (pfX7 a0 a1 a2 a6 a7 4 p0 p1 (a3, a4, a5, a8)).2.2.1, (pfX7 a0 a1 a2 a6 a7 4 p0 p1 (a3, a4, a5, a8)).2.2.2) = lpX7 a1 a2 a6 a7 (pfX7 a0 a1 a2 a6 a7 3 (p0 + (1 : Int32))) p0 p1 n35 b t3 t4 t5 t8 → Sm p l e (rmL 6) s m args below meth c G A 4 0 0 (Qcv below G A args s (wX7 G ad a0 a1 a2 ((pfX7 a0 a1 a2 a6 a7 4 p0 p1 (a3, a4, a5, a8)).1) ((pfX7 a0 a1 a2 a6 a7 4 p0 p1 (a3, a4, a5, a8)).2.1) ((pfX7 a0 a1 a2 a6 a7 4 p0 p1 (a3, a4, a5, a8)).2.2.1) a6 a7 ((pfX7 a0 a1 a2 a6 a7 4 p0 p1 (a3, a4, a5, a8)).2.2.2))) 35 [(0, .ref (ad 0)), (1, .int p0), (2, .int p1), (3, .int b)] [] (wX7 G ad a0 a1 a2 t3 t4 t5 a6 a7 t8) := by
          intro n35
          induction n35 with
          | zero => intro b t3 t4 t5 t8 hb hm35 hv35; exact absurd hm35 (Nat.not_lt_zero _)
          | succ n35 ih35 =>
            intro b t3 t4 t5 t8 hb hm35 hv35
            refine s_iload_n X (pc := 35) (x := b) 3 dX7_placeFrom_35 rfl ?_
            refine s_bipush X (pc := 36) (v := 12) dX7_placeFrom_36 (by decide) ?_
            refine s_icmp_ge X (pc := 38) (tgt := 115) dX7_placeFrom_38 (by decide) (fun c38 => ?_) (fun c38 => ?_)
            ·
              exact s_vret X (pc := 115) dX7_placeFrom_115 (by rw [show (pfX7 a0 a1 a2 a6 a7 4 p0 p1 (a3, a4, a5, a8)).1 = t3 from (congrArg (fun z => z.1) (hv35.trans (if_pos c38))), show (pfX7 a0 a1 a2 a6 a7 4 p0 p1 (a3, a4, a5, a8)).2.1 = t4 from (congrArg (fun z => z.2.1) (hv35.trans (if_pos c38))), show (pfX7 a0 a1 a2 a6 a7 4 p0 p1 (a3, a4, a5, a8)).2.2.1 = t5 from (congrArg (fun z => z.2.2.1) (hv35.trans (if_pos c38))), show (pfX7 a0 a1 a2 a6 a7 4 p0 p1 (a3, a4, a5, a8)).2.2.2 = t8 from (congrArg (fun z => z.2.2.2) (hv35.trans (if_pos c38)))])
            ·
              refine s_aload_n X (pc := 41) (x := (ad 0)) 0 dX7_placeFrom_41 rfl ?_
              refine s_iload_n X (pc := 42) (x := p1) 2 dX7_placeFrom_42 rfl ?_
              refine s_iload_n X (pc := 43) (x := b) 3 dX7_placeFrom_43 rfl ?_
              refine s_aload_n X (pc := 44) (x := (ad 0)) 0 dX7_placeFrom_44 rfl ?_
              refine s_get X (pc := 45) (v := .ref (ad 2)) iX7_placeFrom_at1_X7 0 rfl rfl 1 (by decide) kX7_placeFrom_at1_15 rfl rfl dX7_placeFrom_45 ?_
              refine s_iload_n X (pc := 48) (x := p0) 1 dX7_placeFrom_48 rfl ?_
              refine s_iald X (pc := 49) (n := 5) (f := a1) 2 rfl (by first | with_reducible assumption | exact vin (b := 5) rfl (by grind) (by grind)) dX7_placeFrom_49 ?_
              refine s_iadd X (pc := 50) dX7_placeFrom_50 ?_
              refine s_max X (pc := 51) kX7_placeFrom_at1_m70 kX7_placeFrom_at1_stmax kX7_placeFrom_at1_inMath kX7_placeFrom_at1_comax (Nat.le_of_ble_eq_true rfl) (Nat.le_of_ble_eq_true rfl) (Nat.zero_le _) (Nat.zero_le _) dX7_placeFrom_51 ?_
              refine s_callVi0 X (pc := 54) (r := rX7_canBeSooner a7 t8 (if p1 < (b + (a1 p0.toNatClampNeg)) then (b + (a1 p0.toNatClampNeg)) else p1)) (w := wX7 G ad a0 a1 a2 t3 t4 t5 a6 a7 t8) (n := 1) (st := []) (As := [.int (if p1 < (b + (a1 p0.toNatClampNeg)) then (b + (a1 p0.toNatClampNeg)) else p1)]) (w2 := wX7 G ad a0 a1 a2 t3 t4 t5 a6 a7 t8) 0 (c_X7_canBeSooner l G ad a0 a1 a2 t3 t4 t5 a6 a7 t8 (if p1 < (b + (a1 p0.toNatClampNeg)) then (b + (a1 p0.toNatClampNeg)) else p1)) gX7_placeFrom_X7_canBeSooner rfl (by decide +kernel) ⟨Nat.le_of_ble_eq_true rfl, Nat.le_of_ble_eq_true rfl⟩ 0 rfl rfl rfl rfl (Nat.le_of_ble_eq_true rfl) (Nat.zero_le _) (Nat.zero_le _) dX7_placeFrom_54 ?_
              refine s_if_eq X (pc := 57) (tgt := 115) dX7_placeFrom_57 (by decide) (fun c57 => ?_) (fun c57 => ?_)
              ·
                exact s_vret X (pc := 115) dX7_placeFrom_115 (by rw [show (pfX7 a0 a1 a2 a6 a7 4 p0 p1 (a3, a4, a5, a8)).1 = t3 from (congrArg (fun z => z.1) (hv35.trans ((if_neg c38).trans (if_pos c57)))), show (pfX7 a0 a1 a2 a6 a7 4 p0 p1 (a3, a4, a5, a8)).2.1 = t4 from (congrArg (fun z => z.2.1) (hv35.trans ((if_neg c38).trans (if_pos c57)))), show (pfX7 a0 a1 a2 a6 a7 4 p0 p1 (a3, a4, a5, a8)).2.2.1 = t5 from (congrArg (fun z => z.2.2.1) (hv35.trans ((if_neg c38).trans (if_pos c57)))), show (pfX7 a0 a1 a2 a6 a7 4 p0 p1 (a3, a4, a5, a8)).2.2.2 = t8 from (congrArg (fun z => z.2.2.2) (hv35.trans ((if_neg c38).trans (if_pos c57))))])
              ·
                refine s_aload_n X (pc := 60) (x := (ad 0)) 0 dX7_placeFrom_60 rfl ?_
                refine s_iload_n X (pc := 61) (x := p0) 1 dX7_placeFrom_61 rfl ?_
                refine s_iload_n X (pc := 62) (x := b) 3 dX7_placeFrom_62 rfl ?_
                refine s_callVi0 X (pc := 63) (r := rX7_fits a1 a2 t5 a6 p0 b) (w := wX7 G ad a0 a1 a2 t3 t4 t5 a6 a7 t8) (n := 2) (st := []) (As := [.int p0, .int b]) (w2 := wX7 G ad a0 a1 a2 t3 t4 t5 a6 a7 t8) 0 (c_X7_fits l G ad a0 a1 a2 t3 t4 t5 a6 a7 t8 p0 b hc hb) gX7_placeFrom_X7_fits rfl (by decide +kernel) ⟨Nat.le_of_ble_eq_true rfl, Nat.le_of_ble_eq_true rfl⟩ 0 rfl rfl rfl rfl (Nat.le_of_ble_eq_true rfl) (Nat.zero_le _) (Nat.zero_le _) dX7_placeFrom_63 ?_
                refine s_if_eq X (pc := 66) (tgt := 109) dX7_placeFrom_66 (by decide) (fun c66 => ?_) (fun c66 => ?_)
                ·
                  refine s_iinc X (pc := 109) (v := b + (1 : Int32)) (lv2 := [(3, .int (b + (1 : Int32))), (0, .ref (ad 0)), (1, .int p0), (2, .int p1)]) 3 dX7_placeFrom_109 rfl rfl (by decide) rfl ?_
                  refine s_goto X (pc := 112) (tgt := 35) dX7_placeFrom_112 (by decide) ?_
                  refine s_perm (lv2 := [(0, .ref (ad 0)), (1, .int p0), (2, .int p1), (3, .int (b + (1 : Int32)))]) [1, 2, 3, 0] rfl ?_
                  exact ih35 (b + (1 : Int32)) t3 t4 t5 t8 (by grind) (up_lt (b := 12) rfl (by grind) hm35) (hv35.trans (show lpX7 a1 a2 a6 a7 (pfX7 a0 a1 a2 a6 a7 3 (p0 + (1 : Int32))) p0 p1 (n35 + 1) b t3 t4 t5 t8 = lpX7 a1 a2 a6 a7 (pfX7 a0 a1 a2 a6 a7 3 (p0 + (1 : Int32))) p0 p1 n35 (b + (1 : Int32)) t3 t4 t5 t8 from by rw [lpX7]; exact ((if_neg c38).trans ((if_neg c57).trans (if_pos c66)))))
                ·
                  refine s_aload_n X (pc := 69) (x := (ad 0)) 0 dX7_placeFrom_69 rfl ?_
                  refine s_get X (pc := 70) (v := .ref (ad 4)) iX7_placeFrom_at1_X7 0 rfl rfl 3 (by decide) kX7_placeFrom_at1_22 rfl rfl dX7_placeFrom_70 ?_
                  refine s_iload_n X (pc := 73) (x := p0) 1 dX7_placeFrom_73 rfl ?_
                  refine s_iload_n X (pc := 74) (x := b) 3 dX7_placeFrom_74 rfl ?_
                  refine s_iast X (pc := 75) (n := 5) (f := t3) (w2 := wX7 G ad a0 a1 a2 (upd t3 p0.toNatClampNeg b) t4 t5 a6 a7 t8) 4 rfl (by first | with_reducible assumption | exact vin (b := 5) rfl (by grind) (by grind)) rfl dX7_placeFrom_75 ?_
                  refine s_aload_n X (pc := 76) (x := (ad 0)) 0 dX7_placeFrom_76 rfl ?_
                  refine s_iload_n X (pc := 77) (x := p0) 1 dX7_placeFrom_77 rfl ?_
                  refine s_iload_n X (pc := 78) (x := b) 3 dX7_placeFrom_78 rfl ?_
                  refine s_iconst X (pc := 79) (v := 1) dX7_placeFrom_79 (by decide) ?_
                  refine s_callVv0 X (pc := 80) (w := wX7 G ad a0 a1 a2 (upd t3 p0.toNatClampNeg b) t4 t5 a6 a7 t8) (n := 3) (st := []) (As := [.int p0, .int b, .int (1 : Int32)]) (w2 := wX7 G ad a0 a1 a2 (upd t3 p0.toNatClampNeg b) t4 (sX7_occupy_5 a1 t5 p0 b (1 : Int32)) a6 a7 t8) 0 (c_X7_occupy l G ad a0 a1 a2 (upd t3 p0.toNatClampNeg b) t4 t5 a6 a7 t8 p0 b (1 : Int32) hc hb) gX7_placeFrom_X7_occupy rfl (by decide +kernel) ⟨Nat.le_of_ble_eq_true rfl, Nat.le_of_ble_eq_true rfl⟩ 0 rfl rfl rfl rfl (Nat.le_of_ble_eq_true rfl) (Nat.zero_le _) (Nat.zero_le _) dX7_placeFrom_80 ?_
                  refine s_aload_n X (pc := 83) (x := (ad 0)) 0 dX7_placeFrom_83 rfl ?_
                  refine s_iload_n X (pc := 84) (x := p0) 1 dX7_placeFrom_84 rfl ?_
                  refine s_iconst X (pc := 85) (v := 1) dX7_placeFrom_85 (by decide) ?_
                  refine s_iadd X (pc := 86) dX7_placeFrom_86 ?_
                  refine s_iload_n X (pc := 87) (x := p1) 2 dX7_placeFrom_87 rfl ?_
                  refine s_iload_n X (pc := 88) (x := b) 3 dX7_placeFrom_88 rfl ?_
                  refine s_aload_n X (pc := 89) (x := (ad 0)) 0 dX7_placeFrom_89 rfl ?_
                  refine s_get X (pc := 90) (v := .ref (ad 2)) iX7_placeFrom_at1_X7 0 rfl rfl 1 (by decide) kX7_placeFrom_at1_15 rfl rfl dX7_placeFrom_90 ?_
                  refine s_iload_n X (pc := 93) (x := p0) 1 dX7_placeFrom_93 rfl ?_
                  refine s_iald X (pc := 94) (n := 5) (f := a1) 2 rfl (by first | with_reducible assumption | exact vin (b := 5) rfl (by grind) (by grind)) dX7_placeFrom_94 ?_
                  refine s_iadd X (pc := 95) dX7_placeFrom_95 ?_
                  refine s_max X (pc := 96) kX7_placeFrom_at1_m70 kX7_placeFrom_at1_stmax kX7_placeFrom_at1_inMath kX7_placeFrom_at1_comax (Nat.le_of_ble_eq_true rfl) (Nat.le_of_ble_eq_true rfl) (Nat.zero_le _) (Nat.zero_le _) dX7_placeFrom_96 ?_
                  refine s_callSv0 X (pc := 99) (w := wX7 G ad a0 a1 a2 (upd t3 p0.toNatClampNeg b) t4 (sX7_occupy_5 a1 t5 p0 b (1 : Int32)) a6 a7 t8) (n := 3) (st := []) (As := [.ref (ad 0), .int (p0 + (1 : Int32)), .int (if p1 < (b + (a1 p0.toNatClampNeg)) then (b + (a1 p0.toNatClampNeg)) else p1)]) (w2 := wX7 G ad a0 a1 a2 ((pfX7 a0 a1 a2 a6 a7 3 (p0 + (1 : Int32)) (if p1 < (b + (a1 p0.toNatClampNeg)) then (b + (a1 p0.toNatClampNeg)) else p1) ((upd t3 p0.toNatClampNeg b), t4, (sX7_occupy_5 a1 t5 p0 b (1 : Int32)), t8)).1) ((pfX7 a0 a1 a2 a6 a7 3 (p0 + (1 : Int32)) (if p1 < (b + (a1 p0.toNatClampNeg)) then (b + (a1 p0.toNatClampNeg)) else p1) ((upd t3 p0.toNatClampNeg b), t4, (sX7_occupy_5 a1 t5 p0 b (1 : Int32)), t8)).2.1) ((pfX7 a0 a1 a2 a6 a7 3 (p0 + (1 : Int32)) (if p1 < (b + (a1 p0.toNatClampNeg)) then (b + (a1 p0.toNatClampNeg)) else p1) ((upd t3 p0.toNatClampNeg b), t4, (sX7_occupy_5 a1 t5 p0 b (1 : Int32)), t8)).2.2.1) a6 a7 ((pfX7 a0 a1 a2 a6 a7 3 (p0 + (1 : Int32)) (if p1 < (b + (a1 p0.toNatClampNeg)) then (b + (a1 p0.toNatClampNeg)) else p1) ((upd t3 p0.toNatClampNeg b), t4, (sX7_occupy_5 a1 t5 p0 b (1 : Int32)), t8)).2.2.2)) 5 (c_X7_placeFrom_at2 l G ad a0 a1 a2 (upd t3 p0.toNatClampNeg b) t4 (sX7_occupy_5 a1 t5 p0 b (1 : Int32)) a6 a7 t8 (p0 + (1 : Int32)) (if p1 < (b + (a1 p0.toNatClampNeg)) then (b + (a1 p0.toNatClampNeg)) else p1) (by rw [hp0]; rfl)) gX7_placeFrom_X7_placeFrom rfl (by decide +kernel) ⟨Nat.le_of_ble_eq_true rfl, Nat.le_of_ble_eq_true rfl⟩ rfl rfl (Nat.le_of_ble_eq_true rfl) (Nat.zero_le _) (Nat.zero_le _) dX7_placeFrom_99 ?_
                  refine s_aload_n X (pc := 102) (x := (ad 0)) 0 dX7_placeFrom_102 rfl ?_
                  refine s_iload_n X (pc := 103) (x := p0) 1 dX7_placeFrom_103 rfl ?_
                  refine s_iload_n X (pc := 104) (x := b) 3 dX7_placeFrom_104 rfl ?_
                  refine s_iconst X (pc := 105) (v := -1) dX7_placeFrom_105 (by decide) ?_
                  refine s_callVv0 X (pc := 106) (w := wX7 G ad a0 a1 a2 ((pfX7 a0 a1 a2 a6 a7 3 (p0 + (1 : Int32)) (if p1 < (b + (a1 p0.toNatClampNeg)) then (b + (a1 p0.toNatClampNeg)) else p1) ((upd t3 p0.toNatClampNeg b), t4, (sX7_occupy_5 a1 t5 p0 b (1 : Int32)), t8)).1) ((pfX7 a0 a1 a2 a6 a7 3 (p0 + (1 : Int32)) (if p1 < (b + (a1 p0.toNatClampNeg)) then (b + (a1 p0.toNatClampNeg)) else p1) ((upd t3 p0.toNatClampNeg b), t4, (sX7_occupy_5 a1 t5 p0 b (1 : Int32)), t8)).2.1) ((pfX7 a0 a1 a2 a6 a7 3 (p0 + (1 : Int32)) (if p1 < (b + (a1 p0.toNatClampNeg)) then (b + (a1 p0.toNatClampNeg)) else p1) ((upd t3 p0.toNatClampNeg b), t4, (sX7_occupy_5 a1 t5 p0 b (1 : Int32)), t8)).2.2.1) a6 a7 ((pfX7 a0 a1 a2 a6 a7 3 (p0 + (1 : Int32)) (if p1 < (b + (a1 p0.toNatClampNeg)) then (b + (a1 p0.toNatClampNeg)) else p1) ((upd t3 p0.toNatClampNeg b), t4, (sX7_occupy_5 a1 t5 p0 b (1 : Int32)), t8)).2.2.2)) (n := 3) (st := []) (As := [.int p0, .int b, .int (-1 : Int32)]) (w2 := wX7 G ad a0 a1 a2 ((pfX7 a0 a1 a2 a6 a7 3 (p0 + (1 : Int32)) (if p1 < (b + (a1 p0.toNatClampNeg)) then (b + (a1 p0.toNatClampNeg)) else p1) ((upd t3 p0.toNatClampNeg b), t4, (sX7_occupy_5 a1 t5 p0 b (1 : Int32)), t8)).1) ((pfX7 a0 a1 a2 a6 a7 3 (p0 + (1 : Int32)) (if p1 < (b + (a1 p0.toNatClampNeg)) then (b + (a1 p0.toNatClampNeg)) else p1) ((upd t3 p0.toNatClampNeg b), t4, (sX7_occupy_5 a1 t5 p0 b (1 : Int32)), t8)).2.1) (sX7_occupy_5 a1 ((pfX7 a0 a1 a2 a6 a7 3 (p0 + (1 : Int32)) (if p1 < (b + (a1 p0.toNatClampNeg)) then (b + (a1 p0.toNatClampNeg)) else p1) ((upd t3 p0.toNatClampNeg b), t4, (sX7_occupy_5 a1 t5 p0 b (1 : Int32)), t8)).2.2.1) p0 b (-1 : Int32)) a6 a7 ((pfX7 a0 a1 a2 a6 a7 3 (p0 + (1 : Int32)) (if p1 < (b + (a1 p0.toNatClampNeg)) then (b + (a1 p0.toNatClampNeg)) else p1) ((upd t3 p0.toNatClampNeg b), t4, (sX7_occupy_5 a1 t5 p0 b (1 : Int32)), t8)).2.2.2)) 0 (c_X7_occupy l G ad a0 a1 a2 ((pfX7 a0 a1 a2 a6 a7 3 (p0 + (1 : Int32)) (if p1 < (b + (a1 p0.toNatClampNeg)) then (b + (a1 p0.toNatClampNeg)) else p1) ((upd t3 p0.toNatClampNeg b), t4, (sX7_occupy_5 a1 t5 p0 b (1 : Int32)), t8)).1) ((pfX7 a0 a1 a2 a6 a7 3 (p0 + (1 : Int32)) (if p1 < (b + (a1 p0.toNatClampNeg)) then (b + (a1 p0.toNatClampNeg)) else p1) ((upd t3 p0.toNatClampNeg b), t4, (sX7_occupy_5 a1 t5 p0 b (1 : Int32)), t8)).2.1) ((pfX7 a0 a1 a2 a6 a7 3 (p0 + (1 : Int32)) (if p1 < (b + (a1 p0.toNatClampNeg)) then (b + (a1 p0.toNatClampNeg)) else p1) ((upd t3 p0.toNatClampNeg b), t4, (sX7_occupy_5 a1 t5 p0 b (1 : Int32)), t8)).2.2.1) a6 a7 ((pfX7 a0 a1 a2 a6 a7 3 (p0 + (1 : Int32)) (if p1 < (b + (a1 p0.toNatClampNeg)) then (b + (a1 p0.toNatClampNeg)) else p1) ((upd t3 p0.toNatClampNeg b), t4, (sX7_occupy_5 a1 t5 p0 b (1 : Int32)), t8)).2.2.2) p0 b (-1 : Int32) hc hb) gX7_placeFrom_X7_occupy rfl (by decide +kernel) ⟨Nat.le_of_ble_eq_true rfl, Nat.le_of_ble_eq_true rfl⟩ 0 rfl rfl rfl rfl (Nat.le_of_ble_eq_true rfl) (Nat.zero_le _) (Nat.zero_le _) dX7_placeFrom_106 ?_
                  refine s_iinc X (pc := 109) (v := b + (1 : Int32)) (lv2 := [(3, .int (b + (1 : Int32))), (0, .ref (ad 0)), (1, .int p0), (2, .int p1)]) 3 dX7_placeFrom_109 rfl rfl (by decide) rfl ?_
                  refine s_goto X (pc := 112) (tgt := 35) dX7_placeFrom_112 (by decide) ?_
                  refine s_perm (lv2 := [(0, .ref (ad 0)), (1, .int p0), (2, .int p1), (3, .int (b + (1 : Int32)))]) [1, 2, 3, 0] rfl ?_
                  exact ih35 (b + (1 : Int32)) ((pfX7 a0 a1 a2 a6 a7 3 (p0 + (1 : Int32)) (if p1 < (b + (a1 p0.toNatClampNeg)) then (b + (a1 p0.toNatClampNeg)) else p1) ((upd t3 p0.toNatClampNeg b), t4, (sX7_occupy_5 a1 t5 p0 b (1 : Int32)), t8)).1) ((pfX7 a0 a1 a2 a6 a7 3 (p0 + (1 : Int32)) (if p1 < (b + (a1 p0.toNatClampNeg)) then (b + (a1 p0.toNatClampNeg)) else p1) ((upd t3 p0.toNatClampNeg b), t4, (sX7_occupy_5 a1 t5 p0 b (1 : Int32)), t8)).2.1) (sX7_occupy_5 a1 ((pfX7 a0 a1 a2 a6 a7 3 (p0 + (1 : Int32)) (if p1 < (b + (a1 p0.toNatClampNeg)) then (b + (a1 p0.toNatClampNeg)) else p1) ((upd t3 p0.toNatClampNeg b), t4, (sX7_occupy_5 a1 t5 p0 b (1 : Int32)), t8)).2.2.1) p0 b (-1 : Int32)) ((pfX7 a0 a1 a2 a6 a7 3 (p0 + (1 : Int32)) (if p1 < (b + (a1 p0.toNatClampNeg)) then (b + (a1 p0.toNatClampNeg)) else p1) ((upd t3 p0.toNatClampNeg b), t4, (sX7_occupy_5 a1 t5 p0 b (1 : Int32)), t8)).2.2.2) (by grind) (up_lt (b := 12) rfl (by grind) hm35) (hv35.trans (show lpX7 a1 a2 a6 a7 (pfX7 a0 a1 a2 a6 a7 3 (p0 + (1 : Int32))) p0 p1 (n35 + 1) b t3 t4 t5 t8 = lpX7 a1 a2 a6 a7 (pfX7 a0 a1 a2 a6 a7 3 (p0 + (1 : Int32))) p0 p1 n35 (b + (1 : Int32)) ((pfX7 a0 a1 a2 a6 a7 3 (p0 + (1 : Int32)) (if p1 < (b + (a1 p0.toNatClampNeg)) then (b + (a1 p0.toNatClampNeg)) else p1) ((upd t3 p0.toNatClampNeg b), t4, (sX7_occupy_5 a1 t5 p0 b (1 : Int32)), t8)).1) ((pfX7 a0 a1 a2 a6 a7 3 (p0 + (1 : Int32)) (if p1 < (b + (a1 p0.toNatClampNeg)) then (b + (a1 p0.toNatClampNeg)) else p1) ((upd t3 p0.toNatClampNeg b), t4, (sX7_occupy_5 a1 t5 p0 b (1 : Int32)), t8)).2.1) (sX7_occupy_5 a1 ((pfX7 a0 a1 a2 a6 a7 3 (p0 + (1 : Int32)) (if p1 < (b + (a1 p0.toNatClampNeg)) then (b + (a1 p0.toNatClampNeg)) else p1) ((upd t3 p0.toNatClampNeg b), t4, (sX7_occupy_5 a1 t5 p0 b (1 : Int32)), t8)).2.2.1) p0 b (-1 : Int32)) ((pfX7 a0 a1 a2 a6 a7 3 (p0 + (1 : Int32)) (if p1 < (b + (a1 p0.toNatClampNeg)) then (b + (a1 p0.toNatClampNeg)) else p1) ((upd t3 p0.toNatClampNeg b), t4, (sX7_occupy_5 a1 t5 p0 b (1 : Int32)), t8)).2.2.2) from by rw [lpX7]; exact ((if_neg c38).trans ((if_neg c57).trans (if_neg c66)))))
        exact L35 13 (0 : Int32) a3 a4 a5 a8 (by decide) (m_lt (by decide)) (if_neg c21)
      ·
        refine s_aload_n X (pc := 24) (x := (ad 0)) 0 dX7_placeFrom_24 rfl ?_
        refine s_iload_n X (pc := 25) (x := p0) 1 dX7_placeFrom_25 rfl ?_
        refine s_iconst X (pc := 26) (v := 1) dX7_placeFrom_26 (by decide) ?_
        refine s_iadd X (pc := 27) dX7_placeFrom_27 ?_
        refine s_iload_n X (pc := 28) (x := p1) 2 dX7_placeFrom_28 rfl ?_
        refine s_callSv0 X (pc := 29) (w := wX7 G ad a0 a1 a2 a3 a4 a5 a6 a7 a8) (n := 3) (st := []) (As := [.ref (ad 0), .int (p0 + (1 : Int32)), .int p1]) (w2 := wX7 G ad a0 a1 a2 ((pfX7 a0 a1 a2 a6 a7 3 (p0 + (1 : Int32)) p1 (a3, a4, a5, a8)).1) ((pfX7 a0 a1 a2 a6 a7 3 (p0 + (1 : Int32)) p1 (a3, a4, a5, a8)).2.1) ((pfX7 a0 a1 a2 a6 a7 3 (p0 + (1 : Int32)) p1 (a3, a4, a5, a8)).2.2.1) a6 a7 ((pfX7 a0 a1 a2 a6 a7 3 (p0 + (1 : Int32)) p1 (a3, a4, a5, a8)).2.2.2)) 5 (c_X7_placeFrom_at2 l G ad a0 a1 a2 a3 a4 a5 a6 a7 a8 (p0 + (1 : Int32)) p1 (by rw [hp0]; rfl)) gX7_placeFrom_X7_placeFrom rfl (by decide +kernel) ⟨Nat.le_of_ble_eq_true rfl, Nat.le_of_ble_eq_true rfl⟩ rfl rfl (Nat.le_of_ble_eq_true rfl) (Nat.zero_le _) (Nat.zero_le _) dX7_placeFrom_29 ?_
        exact s_vret X (pc := 32) dX7_placeFrom_32 (by rw [show (pfX7 a0 a1 a2 a6 a7 4 p0 p1 (a3, a4, a5, a8)).1 = (pfX7 a0 a1 a2 a6 a7 3 (p0 + (1 : Int32)) p1 (a3, a4, a5, a8)).1 from (congrArg (fun z => z.1) (show pfX7 a0 a1 a2 a6 a7 4 p0 p1 (a3, a4, a5, a8) = pfX7 a0 a1 a2 a6 a7 3 (p0 + (1 : Int32)) p1 (a3, a4, a5, a8) from if_pos c21)), show (pfX7 a0 a1 a2 a6 a7 4 p0 p1 (a3, a4, a5, a8)).2.1 = (pfX7 a0 a1 a2 a6 a7 3 (p0 + (1 : Int32)) p1 (a3, a4, a5, a8)).2.1 from (congrArg (fun z => z.2.1) (show pfX7 a0 a1 a2 a6 a7 4 p0 p1 (a3, a4, a5, a8) = pfX7 a0 a1 a2 a6 a7 3 (p0 + (1 : Int32)) p1 (a3, a4, a5, a8) from if_pos c21)), show (pfX7 a0 a1 a2 a6 a7 4 p0 p1 (a3, a4, a5, a8)).2.2.1 = (pfX7 a0 a1 a2 a6 a7 3 (p0 + (1 : Int32)) p1 (a3, a4, a5, a8)).2.2.1 from (congrArg (fun z => z.2.2.1) (show pfX7 a0 a1 a2 a6 a7 4 p0 p1 (a3, a4, a5, a8) = pfX7 a0 a1 a2 a6 a7 3 (p0 + (1 : Int32)) p1 (a3, a4, a5, a8) from if_pos c21)), show (pfX7 a0 a1 a2 a6 a7 4 p0 p1 (a3, a4, a5, a8)).2.2.2 = (pfX7 a0 a1 a2 a6 a7 3 (p0 + (1 : Int32)) p1 (a3, a4, a5, a8)).2.2.2 from (congrArg (fun z => z.2.2.2) (show pfX7 a0 a1 a2 a6 a7 4 p0 p1 (a3, a4, a5, a8) = pfX7 a0 a1 a2 a6 a7 3 (p0 + (1 : Int32)) p1 (a3, a4, a5, a8) from if_pos c21))])
    ·
      exact absurd c6 (not_not_intro (by rw [hp0]; decide))

theorem iX7_placeFrom_at0_X7 : ∀ z ∈ wsX70, z ∈ wsX7_placeFrom := fun z h => List.mem_cons_of_mem _ (List.mem_append_right _ h)
theorem kX7_placeFrom_at0_9 : Cond.fieldLink RX7 9 "BathingCourt$Planner" (TX7 0).2.1 (TX7 0).2.2.1 ∈ wsX7_placeFrom := List.mem_of_getElem? (i := 1) rfl
theorem kX7_placeFrom_at0_15 : Cond.fieldLink RX7 15 "BathingCourt$Planner" (TX7 1).2.1 (TX7 1).2.2.1 ∈ wsX7_placeFrom := List.mem_of_getElem? (i := 2) rfl
theorem kX7_placeFrom_at0_m70 : Cond.methodLink RX7 70 Lib.Math.max.name ∈ wsX7_placeFrom := List.mem_of_getElem? (i := 3) rfl
theorem kX7_placeFrom_at0_stmax : Cond.static Lib.Math.max.name ∈ wsX7_placeFrom := List.mem_of_getElem? (i := 4) rfl
theorem kX7_placeFrom_at0_inMath : Cond.initialized "java/lang/Math" ∈ wsX7_placeFrom := List.mem_of_getElem? (i := 5) rfl
theorem kX7_placeFrom_at0_comax : Cond.code Lib.Math.max.name Lib.Math.max.code 2 (some .int) ∈ wsX7_placeFrom := List.mem_of_getElem? (i := 6) rfl
theorem kX7_placeFrom_at0_22 : Cond.fieldLink RX7 22 "BathingCourt$Planner" (TX7 3).2.1 (TX7 3).2.2.1 ∈ wsX7_placeFrom := List.mem_of_getElem? (i := 7) rfl
set_option maxRecDepth 100000 in
set_option maxHeartbeats 4000000 in
theorem c_X7_placeFrom_at0 (l : Launch) (G : GT) (ad : Nat → Nat) (a0 a1 a2 a3 a4 a5 : Nat → Int32) (a6 a7 a8 p0 p1 : Int32) (hp0 : p0 = 0) : Cv l G yX7_placeFrom wsX7_placeFrom (rmL 7) [.ref (ad 0), .int p0, .int p1] (wX7 G ad a0 a1 a2 a3 a4 a5 a6 a7 a8) (wX7 G ad a0 a1 a2 ((pfX7 a0 a1 a2 a6 a7 5 p0 p1 (a3, a4, a5, a8)).1) ((pfX7 a0 a1 a2 a6 a7 5 p0 p1 (a3, a4, a5, a8)).2.1) ((pfX7 a0 a1 a2 a6 a7 5 p0 p1 (a3, a4, a5, a8)).2.2.1) a6 a7 ((pfX7 a0 a1 a2 a6 a7 5 p0 p1 (a3, a4, a5, a8)).2.2.2)) := by
  refine cv_start (by decide) rfl rfl (Nat.le_of_ble_eq_true rfl) ?_
  intro p e s m args below meth c A X
  have hc : vp_in p0 5 := by rw [hp0]; exact vp_in_iff.mpr (by decide)
  refine s_perm (lv2 := [(0, .ref (ad 0)), (1, .int p0), (2, .int p1)]) [0, 1, 2] rfl ?_
  refine s_iload_n X (pc := 0) (x := p0) 1 dX7_placeFrom_0 rfl ?_
  refine s_if_lt X (pc := 1) (tgt := 9) dX7_placeFrom_1 (by decide) (fun c1 => ?_) (fun c1 => ?_)
  ·
    exact absurd c1 (by rw [hp0]; decide)
  ·
    refine s_iload_n X (pc := 4) (x := p0) 1 dX7_placeFrom_4 rfl ?_
    refine s_iconst X (pc := 5) (v := 5) dX7_placeFrom_5 (by decide) ?_
    refine s_icmp_lt X (pc := 6) (tgt := 15) dX7_placeFrom_6 (by decide) (fun c6 => ?_) (fun c6 => ?_)
    ·
      refine s_aload_n X (pc := 15) (x := (ad 0)) 0 dX7_placeFrom_15 rfl ?_
      refine s_get X (pc := 16) (v := .ref (ad 1)) iX7_placeFrom_at0_X7 0 rfl rfl 0 (by decide) kX7_placeFrom_at0_9 rfl rfl dX7_placeFrom_16 ?_
      refine s_iload_n X (pc := 19) (x := p0) 1 dX7_placeFrom_19 rfl ?_
      refine s_zald X (pc := 20) (n := 5) (f := a0) 1 rfl (by first | with_reducible assumption | exact vin (b := 5) rfl (by grind) (by grind)) dX7_placeFrom_20 ?_
      refine s_if_ne X (pc := 21) (tgt := 33) dX7_placeFrom_21 (by decide) (fun c21 => ?_) (fun c21 => ?_)
      ·
        refine s_iconst X (pc := 33) (v := 0) dX7_placeFrom_33 (by decide) ?_
        refine s_istore_n X (pc := 34) (i := 3) (lv2 := [(3, .int (0 : Int32)), (0, .ref (ad 0)), (1, .int p0), (2, .int p1)]) dX7_placeFrom_34 rfl (by decide) rfl ?_
        refine s_perm (lv2 := [(0, .ref (ad 0)), (1, .int p0), (2, .int p1), (3, .int (0 : Int32))]) [1, 2, 3, 0] rfl ?_
        have L35 : ∀ (n35 : Nat) (b : Int32) (t3 : (Nat → Int32)) (t4 : (Nat → Int32)) (t5 : (Nat → Int32)) (t8 : Int32), (0 ≤ b) → ((12 : Nat) - b.toInt).toNat < n35 → ((pfX7 a0 a1 a2 a6 a7 5 p0 p1 (a3, a4, a5, a8)).1, (pfX7 a0 a1 a2 a6 a7 5 p0 p1 (a3, a4, a5, a8)).2.1, (pfX7 a0 a1 a2 a6 a7 5 p0 p1 (a3, a4, a5, a8)).2.2.1, (pfX7 a0 a1 a2 a6 a7 5 p0 p1 (a3, a4, a5, a8)).2.2.2) = lpX7 a1 a2 a6 a7 (pfX7 a0 a1 a2 a6 a7 4 (p0 + (1 : Int32))) p0 p1 n35 b t3 t4 t5 t8 → Sm p l e (rmL 7) s m args below meth c G A 4 0 0 (Qcv below G A args s (wX7 G ad a0 a1 a2 ((pfX7 a0 a1 a2 a6 a7 5 p0 p1 (a3, a4, a5, a8)).1) ((pfX7 a0 a1 a2 a6 a7 5 p0 p1 (a3, a4, a5, a8)).2.1) ((pfX7 a0 a1 a2 a6 a7 5 p0 p1 (a3, a4, a5, a8)).2.2.1) a6 a7 ((pfX7 a0 a1 a2 a6 a7 5 p0 p1 (a3, a4, a5, a8)).2.2.2))) 35 [(0, .ref (ad 0)), (1, .int p0), (2, .int p1), (3, .int b)] [] (wX7 G ad a0 a1 a2 t3 t4 t5 a6 a7 t8) := by
          intro n35
          induction n35 with
          | zero => intro b t3 t4 t5 t8 hb hm35 hv35; exact absurd hm35 (Nat.not_lt_zero _)
          | succ n35 ih35 =>
            intro b t3 t4 t5 t8 hb hm35 hv35
            refine s_iload_n X (pc := 35) (x := b) 3 dX7_placeFrom_35 rfl ?_
            refine s_bipush X (pc := 36) (v := 12) dX7_placeFrom_36 (by decide) ?_
            refine s_icmp_ge X (pc := 38) (tgt := 115) dX7_placeFrom_38 (by decide) (fun c38 => ?_) (fun c38 => ?_)
            ·
              exact s_vret X (pc := 115) dX7_placeFrom_115 (by rw [show (pfX7 a0 a1 a2 a6 a7 5 p0 p1 (a3, a4, a5, a8)).1 = t3 from (congrArg (fun z => z.1) (hv35.trans (if_pos c38))), show (pfX7 a0 a1 a2 a6 a7 5 p0 p1 (a3, a4, a5, a8)).2.1 = t4 from (congrArg (fun z => z.2.1) (hv35.trans (if_pos c38))), show (pfX7 a0 a1 a2 a6 a7 5 p0 p1 (a3, a4, a5, a8)).2.2.1 = t5 from (congrArg (fun z => z.2.2.1) (hv35.trans (if_pos c38))), show (pfX7 a0 a1 a2 a6 a7 5 p0 p1 (a3, a4, a5, a8)).2.2.2 = t8 from (congrArg (fun z => z.2.2.2) (hv35.trans (if_pos c38)))])
            ·
              refine s_aload_n X (pc := 41) (x := (ad 0)) 0 dX7_placeFrom_41 rfl ?_
              refine s_iload_n X (pc := 42) (x := p1) 2 dX7_placeFrom_42 rfl ?_
              refine s_iload_n X (pc := 43) (x := b) 3 dX7_placeFrom_43 rfl ?_
              refine s_aload_n X (pc := 44) (x := (ad 0)) 0 dX7_placeFrom_44 rfl ?_
              refine s_get X (pc := 45) (v := .ref (ad 2)) iX7_placeFrom_at0_X7 0 rfl rfl 1 (by decide) kX7_placeFrom_at0_15 rfl rfl dX7_placeFrom_45 ?_
              refine s_iload_n X (pc := 48) (x := p0) 1 dX7_placeFrom_48 rfl ?_
              refine s_iald X (pc := 49) (n := 5) (f := a1) 2 rfl (by first | with_reducible assumption | exact vin (b := 5) rfl (by grind) (by grind)) dX7_placeFrom_49 ?_
              refine s_iadd X (pc := 50) dX7_placeFrom_50 ?_
              refine s_max X (pc := 51) kX7_placeFrom_at0_m70 kX7_placeFrom_at0_stmax kX7_placeFrom_at0_inMath kX7_placeFrom_at0_comax (Nat.le_of_ble_eq_true rfl) (Nat.le_of_ble_eq_true rfl) (Nat.zero_le _) (Nat.zero_le _) dX7_placeFrom_51 ?_
              refine s_callVi0 X (pc := 54) (r := rX7_canBeSooner a7 t8 (if p1 < (b + (a1 p0.toNatClampNeg)) then (b + (a1 p0.toNatClampNeg)) else p1)) (w := wX7 G ad a0 a1 a2 t3 t4 t5 a6 a7 t8) (n := 1) (st := []) (As := [.int (if p1 < (b + (a1 p0.toNatClampNeg)) then (b + (a1 p0.toNatClampNeg)) else p1)]) (w2 := wX7 G ad a0 a1 a2 t3 t4 t5 a6 a7 t8) 0 (c_X7_canBeSooner l G ad a0 a1 a2 t3 t4 t5 a6 a7 t8 (if p1 < (b + (a1 p0.toNatClampNeg)) then (b + (a1 p0.toNatClampNeg)) else p1)) gX7_placeFrom_X7_canBeSooner rfl (by decide +kernel) ⟨Nat.le_of_ble_eq_true rfl, Nat.le_of_ble_eq_true rfl⟩ 0 rfl rfl rfl rfl (Nat.le_of_ble_eq_true rfl) (Nat.zero_le _) (Nat.zero_le _) dX7_placeFrom_54 ?_
              refine s_if_eq X (pc := 57) (tgt := 115) dX7_placeFrom_57 (by decide) (fun c57 => ?_) (fun c57 => ?_)
              ·
                exact s_vret X (pc := 115) dX7_placeFrom_115 (by rw [show (pfX7 a0 a1 a2 a6 a7 5 p0 p1 (a3, a4, a5, a8)).1 = t3 from (congrArg (fun z => z.1) (hv35.trans ((if_neg c38).trans (if_pos c57)))), show (pfX7 a0 a1 a2 a6 a7 5 p0 p1 (a3, a4, a5, a8)).2.1 = t4 from (congrArg (fun z => z.2.1) (hv35.trans ((if_neg c38).trans (if_pos c57)))), show (pfX7 a0 a1 a2 a6 a7 5 p0 p1 (a3, a4, a5, a8)).2.2.1 = t5 from (congrArg (fun z => z.2.2.1) (hv35.trans ((if_neg c38).trans (if_pos c57)))), show (pfX7 a0 a1 a2 a6 a7 5 p0 p1 (a3, a4, a5, a8)).2.2.2 = t8 from (congrArg (fun z => z.2.2.2) (hv35.trans ((if_neg c38).trans (if_pos c57))))])
              ·
                refine s_aload_n X (pc := 60) (x := (ad 0)) 0 dX7_placeFrom_60 rfl ?_
                refine s_iload_n X (pc := 61) (x := p0) 1 dX7_placeFrom_61 rfl ?_
                refine s_iload_n X (pc := 62) (x := b) 3 dX7_placeFrom_62 rfl ?_
                refine s_callVi0 X (pc := 63) (r := rX7_fits a1 a2 t5 a6 p0 b) (w := wX7 G ad a0 a1 a2 t3 t4 t5 a6 a7 t8) (n := 2) (st := []) (As := [.int p0, .int b]) (w2 := wX7 G ad a0 a1 a2 t3 t4 t5 a6 a7 t8) 0 (c_X7_fits l G ad a0 a1 a2 t3 t4 t5 a6 a7 t8 p0 b hc hb) gX7_placeFrom_X7_fits rfl (by decide +kernel) ⟨Nat.le_of_ble_eq_true rfl, Nat.le_of_ble_eq_true rfl⟩ 0 rfl rfl rfl rfl (Nat.le_of_ble_eq_true rfl) (Nat.zero_le _) (Nat.zero_le _) dX7_placeFrom_63 ?_
                refine s_if_eq X (pc := 66) (tgt := 109) dX7_placeFrom_66 (by decide) (fun c66 => ?_) (fun c66 => ?_)
                ·
                  refine s_iinc X (pc := 109) (v := b + (1 : Int32)) (lv2 := [(3, .int (b + (1 : Int32))), (0, .ref (ad 0)), (1, .int p0), (2, .int p1)]) 3 dX7_placeFrom_109 rfl rfl (by decide) rfl ?_
                  refine s_goto X (pc := 112) (tgt := 35) dX7_placeFrom_112 (by decide) ?_
                  refine s_perm (lv2 := [(0, .ref (ad 0)), (1, .int p0), (2, .int p1), (3, .int (b + (1 : Int32)))]) [1, 2, 3, 0] rfl ?_
                  exact ih35 (b + (1 : Int32)) t3 t4 t5 t8 (by grind) (up_lt (b := 12) rfl (by grind) hm35) (hv35.trans (show lpX7 a1 a2 a6 a7 (pfX7 a0 a1 a2 a6 a7 4 (p0 + (1 : Int32))) p0 p1 (n35 + 1) b t3 t4 t5 t8 = lpX7 a1 a2 a6 a7 (pfX7 a0 a1 a2 a6 a7 4 (p0 + (1 : Int32))) p0 p1 n35 (b + (1 : Int32)) t3 t4 t5 t8 from by rw [lpX7]; exact ((if_neg c38).trans ((if_neg c57).trans (if_pos c66)))))
                ·
                  refine s_aload_n X (pc := 69) (x := (ad 0)) 0 dX7_placeFrom_69 rfl ?_
                  refine s_get X (pc := 70) (v := .ref (ad 4)) iX7_placeFrom_at0_X7 0 rfl rfl 3 (by decide) kX7_placeFrom_at0_22 rfl rfl dX7_placeFrom_70 ?_
                  refine s_iload_n X (pc := 73) (x := p0) 1 dX7_placeFrom_73 rfl ?_
                  refine s_iload_n X (pc := 74) (x := b) 3 dX7_placeFrom_74 rfl ?_
                  refine s_iast X (pc := 75) (n := 5) (f := t3) (w2 := wX7 G ad a0 a1 a2 (upd t3 p0.toNatClampNeg b) t4 t5 a6 a7 t8) 4 rfl (by first | with_reducible assumption | exact vin (b := 5) rfl (by grind) (by grind)) rfl dX7_placeFrom_75 ?_
                  refine s_aload_n X (pc := 76) (x := (ad 0)) 0 dX7_placeFrom_76 rfl ?_
                  refine s_iload_n X (pc := 77) (x := p0) 1 dX7_placeFrom_77 rfl ?_
                  refine s_iload_n X (pc := 78) (x := b) 3 dX7_placeFrom_78 rfl ?_
                  refine s_iconst X (pc := 79) (v := 1) dX7_placeFrom_79 (by decide) ?_
                  refine s_callVv0 X (pc := 80) (w := wX7 G ad a0 a1 a2 (upd t3 p0.toNatClampNeg b) t4 t5 a6 a7 t8) (n := 3) (st := []) (As := [.int p0, .int b, .int (1 : Int32)]) (w2 := wX7 G ad a0 a1 a2 (upd t3 p0.toNatClampNeg b) t4 (sX7_occupy_5 a1 t5 p0 b (1 : Int32)) a6 a7 t8) 0 (c_X7_occupy l G ad a0 a1 a2 (upd t3 p0.toNatClampNeg b) t4 t5 a6 a7 t8 p0 b (1 : Int32) hc hb) gX7_placeFrom_X7_occupy rfl (by decide +kernel) ⟨Nat.le_of_ble_eq_true rfl, Nat.le_of_ble_eq_true rfl⟩ 0 rfl rfl rfl rfl (Nat.le_of_ble_eq_true rfl) (Nat.zero_le _) (Nat.zero_le _) dX7_placeFrom_80 ?_
                  refine s_aload_n X (pc := 83) (x := (ad 0)) 0 dX7_placeFrom_83 rfl ?_
                  refine s_iload_n X (pc := 84) (x := p0) 1 dX7_placeFrom_84 rfl ?_
                  refine s_iconst X (pc := 85) (v := 1) dX7_placeFrom_85 (by decide) ?_
                  refine s_iadd X (pc := 86) dX7_placeFrom_86 ?_
                  refine s_iload_n X (pc := 87) (x := p1) 2 dX7_placeFrom_87 rfl ?_
                  refine s_iload_n X (pc := 88) (x := b) 3 dX7_placeFrom_88 rfl ?_
                  refine s_aload_n X (pc := 89) (x := (ad 0)) 0 dX7_placeFrom_89 rfl ?_
                  refine s_get X (pc := 90) (v := .ref (ad 2)) iX7_placeFrom_at0_X7 0 rfl rfl 1 (by decide) kX7_placeFrom_at0_15 rfl rfl dX7_placeFrom_90 ?_
                  refine s_iload_n X (pc := 93) (x := p0) 1 dX7_placeFrom_93 rfl ?_
                  refine s_iald X (pc := 94) (n := 5) (f := a1) 2 rfl (by first | with_reducible assumption | exact vin (b := 5) rfl (by grind) (by grind)) dX7_placeFrom_94 ?_
                  refine s_iadd X (pc := 95) dX7_placeFrom_95 ?_
                  refine s_max X (pc := 96) kX7_placeFrom_at0_m70 kX7_placeFrom_at0_stmax kX7_placeFrom_at0_inMath kX7_placeFrom_at0_comax (Nat.le_of_ble_eq_true rfl) (Nat.le_of_ble_eq_true rfl) (Nat.zero_le _) (Nat.zero_le _) dX7_placeFrom_96 ?_
                  refine s_callSv0 X (pc := 99) (w := wX7 G ad a0 a1 a2 (upd t3 p0.toNatClampNeg b) t4 (sX7_occupy_5 a1 t5 p0 b (1 : Int32)) a6 a7 t8) (n := 3) (st := []) (As := [.ref (ad 0), .int (p0 + (1 : Int32)), .int (if p1 < (b + (a1 p0.toNatClampNeg)) then (b + (a1 p0.toNatClampNeg)) else p1)]) (w2 := wX7 G ad a0 a1 a2 ((pfX7 a0 a1 a2 a6 a7 4 (p0 + (1 : Int32)) (if p1 < (b + (a1 p0.toNatClampNeg)) then (b + (a1 p0.toNatClampNeg)) else p1) ((upd t3 p0.toNatClampNeg b), t4, (sX7_occupy_5 a1 t5 p0 b (1 : Int32)), t8)).1) ((pfX7 a0 a1 a2 a6 a7 4 (p0 + (1 : Int32)) (if p1 < (b + (a1 p0.toNatClampNeg)) then (b + (a1 p0.toNatClampNeg)) else p1) ((upd t3 p0.toNatClampNeg b), t4, (sX7_occupy_5 a1 t5 p0 b (1 : Int32)), t8)).2.1) ((pfX7 a0 a1 a2 a6 a7 4 (p0 + (1 : Int32)) (if p1 < (b + (a1 p0.toNatClampNeg)) then (b + (a1 p0.toNatClampNeg)) else p1) ((upd t3 p0.toNatClampNeg b), t4, (sX7_occupy_5 a1 t5 p0 b (1 : Int32)), t8)).2.2.1) a6 a7 ((pfX7 a0 a1 a2 a6 a7 4 (p0 + (1 : Int32)) (if p1 < (b + (a1 p0.toNatClampNeg)) then (b + (a1 p0.toNatClampNeg)) else p1) ((upd t3 p0.toNatClampNeg b), t4, (sX7_occupy_5 a1 t5 p0 b (1 : Int32)), t8)).2.2.2)) 6 (c_X7_placeFrom_at1 l G ad a0 a1 a2 (upd t3 p0.toNatClampNeg b) t4 (sX7_occupy_5 a1 t5 p0 b (1 : Int32)) a6 a7 t8 (p0 + (1 : Int32)) (if p1 < (b + (a1 p0.toNatClampNeg)) then (b + (a1 p0.toNatClampNeg)) else p1) (by rw [hp0]; rfl)) gX7_placeFrom_X7_placeFrom rfl (by decide +kernel) ⟨Nat.le_of_ble_eq_true rfl, Nat.le_of_ble_eq_true rfl⟩ rfl rfl (Nat.le_of_ble_eq_true rfl) (Nat.zero_le _) (Nat.zero_le _) dX7_placeFrom_99 ?_
                  refine s_aload_n X (pc := 102) (x := (ad 0)) 0 dX7_placeFrom_102 rfl ?_
                  refine s_iload_n X (pc := 103) (x := p0) 1 dX7_placeFrom_103 rfl ?_
                  refine s_iload_n X (pc := 104) (x := b) 3 dX7_placeFrom_104 rfl ?_
                  refine s_iconst X (pc := 105) (v := -1) dX7_placeFrom_105 (by decide) ?_
                  refine s_callVv0 X (pc := 106) (w := wX7 G ad a0 a1 a2 ((pfX7 a0 a1 a2 a6 a7 4 (p0 + (1 : Int32)) (if p1 < (b + (a1 p0.toNatClampNeg)) then (b + (a1 p0.toNatClampNeg)) else p1) ((upd t3 p0.toNatClampNeg b), t4, (sX7_occupy_5 a1 t5 p0 b (1 : Int32)), t8)).1) ((pfX7 a0 a1 a2 a6 a7 4 (p0 + (1 : Int32)) (if p1 < (b + (a1 p0.toNatClampNeg)) then (b + (a1 p0.toNatClampNeg)) else p1) ((upd t3 p0.toNatClampNeg b), t4, (sX7_occupy_5 a1 t5 p0 b (1 : Int32)), t8)).2.1) ((pfX7 a0 a1 a2 a6 a7 4 (p0 + (1 : Int32)) (if p1 < (b + (a1 p0.toNatClampNeg)) then (b + (a1 p0.toNatClampNeg)) else p1) ((upd t3 p0.toNatClampNeg b), t4, (sX7_occupy_5 a1 t5 p0 b (1 : Int32)), t8)).2.2.1) a6 a7 ((pfX7 a0 a1 a2 a6 a7 4 (p0 + (1 : Int32)) (if p1 < (b + (a1 p0.toNatClampNeg)) then (b + (a1 p0.toNatClampNeg)) else p1) ((upd t3 p0.toNatClampNeg b), t4, (sX7_occupy_5 a1 t5 p0 b (1 : Int32)), t8)).2.2.2)) (n := 3) (st := []) (As := [.int p0, .int b, .int (-1 : Int32)]) (w2 := wX7 G ad a0 a1 a2 ((pfX7 a0 a1 a2 a6 a7 4 (p0 + (1 : Int32)) (if p1 < (b + (a1 p0.toNatClampNeg)) then (b + (a1 p0.toNatClampNeg)) else p1) ((upd t3 p0.toNatClampNeg b), t4, (sX7_occupy_5 a1 t5 p0 b (1 : Int32)), t8)).1) ((pfX7 a0 a1 a2 a6 a7 4 (p0 + (1 : Int32)) (if p1 < (b + (a1 p0.toNatClampNeg)) then (b + (a1 p0.toNatClampNeg)) else p1) ((upd t3 p0.toNatClampNeg b), t4, (sX7_occupy_5 a1 t5 p0 b (1 : Int32)), t8)).2.1) (sX7_occupy_5 a1 ((pfX7 a0 a1 a2 a6 a7 4 (p0 + (1 : Int32)) (if p1 < (b + (a1 p0.toNatClampNeg)) then (b + (a1 p0.toNatClampNeg)) else p1) ((upd t3 p0.toNatClampNeg b), t4, (sX7_occupy_5 a1 t5 p0 b (1 : Int32)), t8)).2.2.1) p0 b (-1 : Int32)) a6 a7 ((pfX7 a0 a1 a2 a6 a7 4 (p0 + (1 : Int32)) (if p1 < (b + (a1 p0.toNatClampNeg)) then (b + (a1 p0.toNatClampNeg)) else p1) ((upd t3 p0.toNatClampNeg b), t4, (sX7_occupy_5 a1 t5 p0 b (1 : Int32)), t8)).2.2.2)) 0 (c_X7_occupy l G ad a0 a1 a2 ((pfX7 a0 a1 a2 a6 a7 4 (p0 + (1 : Int32)) (if p1 < (b + (a1 p0.toNatClampNeg)) then (b + (a1 p0.toNatClampNeg)) else p1) ((upd t3 p0.toNatClampNeg b), t4, (sX7_occupy_5 a1 t5 p0 b (1 : Int32)), t8)).1) ((pfX7 a0 a1 a2 a6 a7 4 (p0 + (1 : Int32)) (if p1 < (b + (a1 p0.toNatClampNeg)) then (b + (a1 p0.toNatClampNeg)) else p1) ((upd t3 p0.toNatClampNeg b), t4, (sX7_occupy_5 a1 t5 p0 b (1 : Int32)), t8)).2.1) ((pfX7 a0 a1 a2 a6 a7 4 (p0 + (1 : Int32)) (if p1 < (b + (a1 p0.toNatClampNeg)) then (b + (a1 p0.toNatClampNeg)) else p1) ((upd t3 p0.toNatClampNeg b), t4, (sX7_occupy_5 a1 t5 p0 b (1 : Int32)), t8)).2.2.1) a6 a7 ((pfX7 a0 a1 a2 a6 a7 4 (p0 + (1 : Int32)) (if p1 < (b + (a1 p0.toNatClampNeg)) then (b + (a1 p0.toNatClampNeg)) else p1) ((upd t3 p0.toNatClampNeg b), t4, (sX7_occupy_5 a1 t5 p0 b (1 : Int32)), t8)).2.2.2) p0 b (-1 : Int32) hc hb) gX7_placeFrom_X7_occupy rfl (by decide +kernel) ⟨Nat.le_of_ble_eq_true rfl, Nat.le_of_ble_eq_true rfl⟩ 0 rfl rfl rfl rfl (Nat.le_of_ble_eq_true rfl) (Nat.zero_le _) (Nat.zero_le _) dX7_placeFrom_106 ?_
                  refine s_iinc X (pc := 109) (v := b + (1 : Int32)) (lv2 := [(3, .int (b + (1 : Int32))), (0, .ref (ad 0)), (1, .int p0), (2, .int p1)]) 3 dX7_placeFrom_109 rfl rfl (by decide) rfl ?_
                  refine s_goto X (pc := 112) (tgt := 35) dX7_placeFrom_112 (by decide) ?_
                  refine s_perm (lv2 := [(0, .ref (ad 0)), (1, .int p0), (2, .int p1), (3, .int (b + (1 : Int32)))]) [1, 2, 3, 0] rfl ?_
                  exact ih35 (b + (1 : Int32)) ((pfX7 a0 a1 a2 a6 a7 4 (p0 + (1 : Int32)) (if p1 < (b + (a1 p0.toNatClampNeg)) then (b + (a1 p0.toNatClampNeg)) else p1) ((upd t3 p0.toNatClampNeg b), t4, (sX7_occupy_5 a1 t5 p0 b (1 : Int32)), t8)).1) ((pfX7 a0 a1 a2 a6 a7 4 (p0 + (1 : Int32)) (if p1 < (b + (a1 p0.toNatClampNeg)) then (b + (a1 p0.toNatClampNeg)) else p1) ((upd t3 p0.toNatClampNeg b), t4, (sX7_occupy_5 a1 t5 p0 b (1 : Int32)), t8)).2.1) (sX7_occupy_5 a1 ((pfX7 a0 a1 a2 a6 a7 4 (p0 + (1 : Int32)) (if p1 < (b + (a1 p0.toNatClampNeg)) then (b + (a1 p0.toNatClampNeg)) else p1) ((upd t3 p0.toNatClampNeg b), t4, (sX7_occupy_5 a1 t5 p0 b (1 : Int32)), t8)).2.2.1) p0 b (-1 : Int32)) ((pfX7 a0 a1 a2 a6 a7 4 (p0 + (1 : Int32)) (if p1 < (b + (a1 p0.toNatClampNeg)) then (b + (a1 p0.toNatClampNeg)) else p1) ((upd t3 p0.toNatClampNeg b), t4, (sX7_occupy_5 a1 t5 p0 b (1 : Int32)), t8)).2.2.2) (by grind) (up_lt (b := 12) rfl (by grind) hm35) (hv35.trans (show lpX7 a1 a2 a6 a7 (pfX7 a0 a1 a2 a6 a7 4 (p0 + (1 : Int32))) p0 p1 (n35 + 1) b t3 t4 t5 t8 = lpX7 a1 a2 a6 a7 (pfX7 a0 a1 a2 a6 a7 4 (p0 + (1 : Int32))) p0 p1 n35 (b + (1 : Int32)) ((pfX7 a0 a1 a2 a6 a7 4 (p0 + (1 : Int32)) (if p1 < (b + (a1 p0.toNatClampNeg)) then (b + (a1 p0.toNatClampNeg)) else p1) ((upd t3 p0.toNatClampNeg b), t4, (sX7_occupy_5 a1 t5 p0 b (1 : Int32)), t8)).1) ((pfX7 a0 a1 a2 a6 a7 4 (p0 + (1 : Int32)) (if p1 < (b + (a1 p0.toNatClampNeg)) then (b + (a1 p0.toNatClampNeg)) else p1) ((upd t3 p0.toNatClampNeg b), t4, (sX7_occupy_5 a1 t5 p0 b (1 : Int32)), t8)).2.1) (sX7_occupy_5 a1 ((pfX7 a0 a1 a2 a6 a7 4 (p0 + (1 : Int32)) (if p1 < (b + (a1 p0.toNatClampNeg)) then (b + (a1 p0.toNatClampNeg)) else p1) ((upd t3 p0.toNatClampNeg b), t4, (sX7_occupy_5 a1 t5 p0 b (1 : Int32)), t8)).2.2.1) p0 b (-1 : Int32)) ((pfX7 a0 a1 a2 a6 a7 4 (p0 + (1 : Int32)) (if p1 < (b + (a1 p0.toNatClampNeg)) then (b + (a1 p0.toNatClampNeg)) else p1) ((upd t3 p0.toNatClampNeg b), t4, (sX7_occupy_5 a1 t5 p0 b (1 : Int32)), t8)).2.2.2) from by rw [lpX7]; exact ((if_neg c38).trans ((if_neg c57).trans (if_neg c66)))))
        exact L35 13 (0 : Int32) a3 a4 a5 a8 (by decide) (m_lt (by decide)) (if_neg c21)
      ·
        refine s_aload_n X (pc := 24) (x := (ad 0)) 0 dX7_placeFrom_24 rfl ?_
        refine s_iload_n X (pc := 25) (x := p0) 1 dX7_placeFrom_25 rfl ?_
        refine s_iconst X (pc := 26) (v := 1) dX7_placeFrom_26 (by decide) ?_
        refine s_iadd X (pc := 27) dX7_placeFrom_27 ?_
        refine s_iload_n X (pc := 28) (x := p1) 2 dX7_placeFrom_28 rfl ?_
        refine s_callSv0 X (pc := 29) (w := wX7 G ad a0 a1 a2 a3 a4 a5 a6 a7 a8) (n := 3) (st := []) (As := [.ref (ad 0), .int (p0 + (1 : Int32)), .int p1]) (w2 := wX7 G ad a0 a1 a2 ((pfX7 a0 a1 a2 a6 a7 4 (p0 + (1 : Int32)) p1 (a3, a4, a5, a8)).1) ((pfX7 a0 a1 a2 a6 a7 4 (p0 + (1 : Int32)) p1 (a3, a4, a5, a8)).2.1) ((pfX7 a0 a1 a2 a6 a7 4 (p0 + (1 : Int32)) p1 (a3, a4, a5, a8)).2.2.1) a6 a7 ((pfX7 a0 a1 a2 a6 a7 4 (p0 + (1 : Int32)) p1 (a3, a4, a5, a8)).2.2.2)) 6 (c_X7_placeFrom_at1 l G ad a0 a1 a2 a3 a4 a5 a6 a7 a8 (p0 + (1 : Int32)) p1 (by rw [hp0]; rfl)) gX7_placeFrom_X7_placeFrom rfl (by decide +kernel) ⟨Nat.le_of_ble_eq_true rfl, Nat.le_of_ble_eq_true rfl⟩ rfl rfl (Nat.le_of_ble_eq_true rfl) (Nat.zero_le _) (Nat.zero_le _) dX7_placeFrom_29 ?_
        exact s_vret X (pc := 32) dX7_placeFrom_32 (by rw [show (pfX7 a0 a1 a2 a6 a7 5 p0 p1 (a3, a4, a5, a8)).1 = (pfX7 a0 a1 a2 a6 a7 4 (p0 + (1 : Int32)) p1 (a3, a4, a5, a8)).1 from (congrArg (fun z => z.1) (show pfX7 a0 a1 a2 a6 a7 5 p0 p1 (a3, a4, a5, a8) = pfX7 a0 a1 a2 a6 a7 4 (p0 + (1 : Int32)) p1 (a3, a4, a5, a8) from if_pos c21)), show (pfX7 a0 a1 a2 a6 a7 5 p0 p1 (a3, a4, a5, a8)).2.1 = (pfX7 a0 a1 a2 a6 a7 4 (p0 + (1 : Int32)) p1 (a3, a4, a5, a8)).2.1 from (congrArg (fun z => z.2.1) (show pfX7 a0 a1 a2 a6 a7 5 p0 p1 (a3, a4, a5, a8) = pfX7 a0 a1 a2 a6 a7 4 (p0 + (1 : Int32)) p1 (a3, a4, a5, a8) from if_pos c21)), show (pfX7 a0 a1 a2 a6 a7 5 p0 p1 (a3, a4, a5, a8)).2.2.1 = (pfX7 a0 a1 a2 a6 a7 4 (p0 + (1 : Int32)) p1 (a3, a4, a5, a8)).2.2.1 from (congrArg (fun z => z.2.2.1) (show pfX7 a0 a1 a2 a6 a7 5 p0 p1 (a3, a4, a5, a8) = pfX7 a0 a1 a2 a6 a7 4 (p0 + (1 : Int32)) p1 (a3, a4, a5, a8) from if_pos c21)), show (pfX7 a0 a1 a2 a6 a7 5 p0 p1 (a3, a4, a5, a8)).2.2.2 = (pfX7 a0 a1 a2 a6 a7 4 (p0 + (1 : Int32)) p1 (a3, a4, a5, a8)).2.2.2 from (congrArg (fun z => z.2.2.2) (show pfX7 a0 a1 a2 a6 a7 5 p0 p1 (a3, a4, a5, a8) = pfX7 a0 a1 a2 a6 a7 4 (p0 + (1 : Int32)) p1 (a3, a4, a5, a8) from if_pos c21))])
    ·
      exact absurd c6 (not_not_intro (by rw [hp0]; decide))

theorem iX7_lookAtAlone_X7 : ∀ z ∈ wsX70, z ∈ wsX7_lookAtAlone := fun z h => List.mem_cons_of_mem _ (List.mem_append_right _ h)
theorem kX7_lookAtAlone_15 : Cond.fieldLink RX7 15 "BathingCourt$Planner" (TX7 1).2.1 (TX7 1).2.2.1 ∈ wsX7_lookAtAlone := List.mem_of_getElem? (i := 1) rfl
theorem kX7_lookAtAlone_19 : Cond.fieldLink RX7 19 "BathingCourt$Planner" (TX7 2).2.1 (TX7 2).2.2.1 ∈ wsX7_lookAtAlone := List.mem_of_getElem? (i := 2) rfl
theorem kX7_lookAtAlone_38 : Cond.fieldLink RX7 38 "BathingCourt$Planner" (TX7 7).2.1 (TX7 7).2.2.1 ∈ wsX7_lookAtAlone := List.mem_of_getElem? (i := 3) rfl
theorem kX7_lookAtAlone_m70 : Cond.methodLink RX7 70 Lib.Math.max.name ∈ wsX7_lookAtAlone := List.mem_of_getElem? (i := 4) rfl
theorem kX7_lookAtAlone_stmax : Cond.static Lib.Math.max.name ∈ wsX7_lookAtAlone := List.mem_of_getElem? (i := 5) rfl
theorem kX7_lookAtAlone_inMath : Cond.initialized "java/lang/Math" ∈ wsX7_lookAtAlone := List.mem_of_getElem? (i := 6) rfl
theorem kX7_lookAtAlone_comax : Cond.code Lib.Math.max.name Lib.Math.max.code 2 (some .int) ∈ wsX7_lookAtAlone := List.mem_of_getElem? (i := 7) rfl
def aX7_lookAtAlone_6 (p2 : Int32) : Nat → Int32
  | 0 => p2
  | k6 + 1 => (aX7_lookAtAlone_6 p2 k6) &&& (p2 >>> ((nI (k6 + 1)) &&& 31))
def sX7_lookAtAlone_1 (a1 : Nat → Int32) (p0 p1 p2 : Int32) : Nat → Int32 := if (aX7_lookAtAlone_6 p2 (p1.toNatClampNeg - 1)) = 0 then (upd a1 p0.toNatClampNeg p1) else (upd a1 p0.toNatClampNeg p1)
def sX7_lookAtAlone_2 (a2 : Nat → Int32) (p0 p1 p2 : Int32) : Nat → Int32 := if (aX7_lookAtAlone_6 p2 (p1.toNatClampNeg - 1)) = 0 then (upd a2 p0.toNatClampNeg (aX7_lookAtAlone_6 p2 (p1.toNatClampNeg - 1))) else (upd a2 p0.toNatClampNeg (aX7_lookAtAlone_6 p2 (p1.toNatClampNeg - 1)))
def sX7_lookAtAlone_7 (a7 p1 p2 : Int32) : Int32 := if (aX7_lookAtAlone_6 p2 (p1.toNatClampNeg - 1)) = 0 then (if a7 < (13 : Int32) then (13 : Int32) else a7) else (if a7 < ((rJ6_numberOfTrailingZeros_0f7a4 (aX7_lookAtAlone_6 p2 (p1.toNatClampNeg - 1))) + p1) then ((rJ6_numberOfTrailingZeros_0f7a4 (aX7_lookAtAlone_6 p2 (p1.toNatClampNeg - 1))) + p1) else a7)
set_option maxRecDepth 100000 in
set_option maxHeartbeats 4000000 in
theorem c_X7_lookAtAlone (l : Launch) (G : GT) (ad : Nat → Nat) (a0 a1 a2 a3 a4 a5 : Nat → Int32) (a6 a7 a8 p0 p1 p2 : Int32) (hc : vp_in p0 5) (h1 : 1 ≤ p1) (h4 : p1 ≤ 4) : Cv l G yX7_lookAtAlone wsX7_lookAtAlone (rmL 1) [.ref (ad 0), .int p0, .int p1, .int p2] (wX7 G ad a0 a1 a2 a3 a4 a5 a6 a7 a8) (wX7 G ad a0 (sX7_lookAtAlone_1 a1 p0 p1 p2) (sX7_lookAtAlone_2 a2 p0 p1 p2) a3 a4 a5 a6 (sX7_lookAtAlone_7 a7 p1 p2) a8) := by
  refine cv_start (by decide) rfl rfl (Nat.le_of_ble_eq_true rfl) ?_
  intro p e s m args below meth c A X
  have e2 : p1.toInt = ((p1.toNatClampNeg - 1 + 1 : Nat) : Int) := by have := clampInt (x := p1) (by grind); have := Int32.le_iff_toInt_le.mp h1; have e1 : (1 : Int32).toInt = 1 := rfl; omega
  have hN := clampLe (n := 4) (b := 4) rfl (by grind) h4
  refine s_perm (lv2 := [(0, .ref (ad 0)), (1, .int p0), (2, .int p1), (3, .int p2)]) [0, 1, 2, 3] rfl ?_
  refine s_iload_n X (pc := 0) (x := p2) 3 dX7_lookAtAlone_0 rfl ?_
  refine s_istore X (pc := 1) (i := 4) (lv2 := [(4, .int p2), (0, .ref (ad 0)), (1, .int p0), (2, .int p1), (3, .int p2)]) dX7_lookAtAlone_1 (by decide) rfl ?_
  refine s_iconst X (pc := 3) (v := 1) dX7_lookAtAlone_3 (by decide) ?_
  refine s_istore X (pc := 4) (i := 5) (lv2 := [(5, .int (1 : Int32)), (4, .int p2), (0, .ref (ad 0)), (1, .int p0), (2, .int p1), (3, .int p2)]) dX7_lookAtAlone_4 (by decide) rfl ?_
  refine s_perm (lv2 := [(0, .ref (ad 0)), (1, .int p0), (2, .int p1), (3, .int p2), (4, .int p2), (5, .int (1 : Int32))]) [2, 3, 4, 5, 1, 0] rfl ?_
  have L6 : ∀ (n6 k6 : Nat), k6 + n6 = (p1.toNatClampNeg - 1) → Sm p l e (rmL 1) s m args below meth c G A 6 0 0 (Qcv below G A args s (wX7 G ad a0 (sX7_lookAtAlone_1 a1 p0 p1 p2) (sX7_lookAtAlone_2 a2 p0 p1 p2) a3 a4 a5 a6 (sX7_lookAtAlone_7 a7 p1 p2) a8)) 6 [(0, .ref (ad 0)), (1, .int p0), (2, .int p1), (3, .int p2), (4, .int (aX7_lookAtAlone_6 p2 k6)), (5, .int (nI (k6 + 1)))] [] (wX7 G ad a0 a1 a2 a3 a4 a5 a6 a7 a8) := by
    intro n6
    induction n6 with
    | zero =>
      intro k6 hk6
      have hK6 : k6 = (p1.toNatClampNeg - 1) := by omega
      rw [hK6]
      have tk6 : (nI ((p1.toNatClampNeg - 1) + 1)).toInt = (((p1.toNatClampNeg - 1) + 1 : Nat) : Int) := nI_toInt (by omega)
      have eN6 : (p1).toInt = ((p1.toNatClampNeg - 1 + 1 : Nat) : Int) := e2
      refine s_iload X (pc := 6) (x := nI ((p1.toNatClampNeg - 1) + 1)) 5 dX7_lookAtAlone_6 rfl ?_
      refine s_iload_n X (pc := 8) (x := p1) 2 dX7_lookAtAlone_8 rfl ?_
      refine s_icmp_ge X (pc := 9) (tgt := 27) dX7_lookAtAlone_9 (by decide) (fun c9 => ?_) (fun c9 => ?_)
      ·
        refine s_aload_n X (pc := 27) (x := (ad 0)) 0 dX7_lookAtAlone_27 rfl ?_
        refine s_get X (pc := 28) (v := .ref (ad 2)) iX7_lookAtAlone_X7 0 rfl rfl 1 (by decide) kX7_lookAtAlone_15 rfl rfl dX7_lookAtAlone_28 ?_
        refine s_iload_n X (pc := 31) (x := p0) 1 dX7_lookAtAlone_31 rfl ?_
        refine s_iload_n X (pc := 32) (x := p1) 2 dX7_lookAtAlone_32 rfl ?_
        refine s_iast X (pc := 33) (n := 5) (f := a1) (w2 := wX7 G ad a0 (upd a1 p0.toNatClampNeg p1) a2 a3 a4 a5 a6 a7 a8) 2 rfl (by first | with_reducible assumption | exact vin (b := 5) rfl (by grind) (by grind)) rfl dX7_lookAtAlone_33 ?_
        refine s_aload_n X (pc := 34) (x := (ad 0)) 0 dX7_lookAtAlone_34 rfl ?_
        refine s_get X (pc := 35) (v := .ref (ad 3)) iX7_lookAtAlone_X7 0 rfl rfl 2 (by decide) kX7_lookAtAlone_19 rfl rfl dX7_lookAtAlone_35 ?_
        refine s_iload_n X (pc := 38) (x := p0) 1 dX7_lookAtAlone_38 rfl ?_
        refine s_iload X (pc := 39) (x := (aX7_lookAtAlone_6 p2 (p1.toNatClampNeg - 1))) 4 dX7_lookAtAlone_39 rfl ?_
        refine s_iast X (pc := 41) (n := 5) (f := a2) (w2 := wX7 G ad a0 (upd a1 p0.toNatClampNeg p1) (upd a2 p0.toNatClampNeg (aX7_lookAtAlone_6 p2 (p1.toNatClampNeg - 1))) a3 a4 a5 a6 a7 a8) 3 rfl (by first | with_reducible assumption | exact vin (b := 5) rfl (by grind) (by grind)) rfl dX7_lookAtAlone_41 ?_
        refine s_iload X (pc := 42) (x := (aX7_lookAtAlone_6 p2 (p1.toNatClampNeg - 1))) 4 dX7_lookAtAlone_42 rfl ?_
        refine s_if_ne X (pc := 44) (tgt := 52) dX7_lookAtAlone_44 (by decide) (fun c44 => ?_) (fun c44 => ?_)
        ·
          refine s_iload X (pc := 52) (x := (aX7_lookAtAlone_6 p2 (p1.toNatClampNeg - 1))) 4 dX7_lookAtAlone_52 rfl ?_
          refine s_callSiN X (pc := 54) (r := rJ6_numberOfTrailingZeros_0f7a4 (aX7_lookAtAlone_6 p2 (p1.toNatClampNeg - 1))) (n := 1) (st := []) (As := [.int (aX7_lookAtAlone_6 p2 (p1.toNatClampNeg - 1))]) 0 (c_J6_numberOfTrailingZeros_0f7a4 l G (aX7_lookAtAlone_6 p2 (p1.toNatClampNeg - 1))) gX7_lookAtAlone_J6_numberOfTrailingZeros_0f7a4 rfl (by decide +kernel) ⟨Nat.le_of_ble_eq_true rfl, Nat.le_of_ble_eq_true rfl⟩ rfl rfl (Nat.le_of_ble_eq_true rfl) (Nat.zero_le _) (Nat.zero_le _) dX7_lookAtAlone_54 ?_
          refine s_iload_n X (pc := 57) (x := p1) 2 dX7_lookAtAlone_57 rfl ?_
          refine s_iadd X (pc := 58) dX7_lookAtAlone_58 ?_
          refine s_istore X (pc := 59) (i := 5) (lv2 := [(5, .int ((rJ6_numberOfTrailingZeros_0f7a4 (aX7_lookAtAlone_6 p2 (p1.toNatClampNeg - 1))) + p1)), (0, .ref (ad 0)), (1, .int p0), (2, .int p1), (3, .int p2), (4, .int (aX7_lookAtAlone_6 p2 (p1.toNatClampNeg - 1)))]) dX7_lookAtAlone_59 (by decide) rfl ?_
          refine s_aload_n X (pc := 61) (x := (ad 0)) 1 dX7_lookAtAlone_61 rfl ?_
          refine s_aload_n X (pc := 62) (x := (ad 0)) 1 dX7_lookAtAlone_62 rfl ?_
          refine s_get X (pc := 63) (v := .int a7) iX7_lookAtAlone_X7 0 rfl rfl 7 (by decide) kX7_lookAtAlone_38 rfl rfl dX7_lookAtAlone_63 ?_
          refine s_iload X (pc := 66) (x := (rJ6_numberOfTrailingZeros_0f7a4 (aX7_lookAtAlone_6 p2 (p1.toNatClampNeg - 1))) + p1) 0 dX7_lookAtAlone_66 rfl ?_
          refine s_max X (pc := 68) kX7_lookAtAlone_m70 kX7_lookAtAlone_stmax kX7_lookAtAlone_inMath kX7_lookAtAlone_comax (Nat.le_of_ble_eq_true rfl) (Nat.le_of_ble_eq_true rfl) (Nat.zero_le _) (Nat.zero_le _) dX7_lookAtAlone_68 ?_
          refine s_put X (pc := 71) (v := .int (if a7 < ((rJ6_numberOfTrailingZeros_0f7a4 (aX7_lookAtAlone_6 p2 (p1.toNatClampNeg - 1))) + p1) then ((rJ6_numberOfTrailingZeros_0f7a4 (aX7_lookAtAlone_6 p2 (p1.toNatClampNeg - 1))) + p1) else a7)) (w2 := wX7 G ad a0 (upd a1 p0.toNatClampNeg p1) (upd a2 p0.toNatClampNeg (aX7_lookAtAlone_6 p2 (p1.toNatClampNeg - 1))) a3 a4 a5 a6 (if a7 < ((rJ6_numberOfTrailingZeros_0f7a4 (aX7_lookAtAlone_6 p2 (p1.toNatClampNeg - 1))) + p1) then ((rJ6_numberOfTrailingZeros_0f7a4 (aX7_lookAtAlone_6 p2 (p1.toNatClampNeg - 1))) + p1) else a7) a8) iX7_lookAtAlone_X7 0 rfl rfl 7 (by decide) kX7_lookAtAlone_38 rfl tyX7 tyX7_ok nmX7 rfl (ty := .int) (by decide +kernel) rfl rfl (Nat.le_of_ble_eq_true rfl) rfl dX7_lookAtAlone_71 ?_
          exact s_vret X (pc := 74) dX7_lookAtAlone_74 (by rw [show sX7_lookAtAlone_1 a1 p0 p1 p2 = upd a1 p0.toNatClampNeg p1 from (by unfold sX7_lookAtAlone_1; exact (if_neg c44)), show sX7_lookAtAlone_2 a2 p0 p1 p2 = upd a2 p0.toNatClampNeg (aX7_lookAtAlone_6 p2 (p1.toNatClampNeg - 1)) from (by unfold sX7_lookAtAlone_2; exact (if_neg c44)), show sX7_lookAtAlone_7 a7 p1 p2 = if a7 < ((rJ6_numberOfTrailingZeros_0f7a4 (aX7_lookAtAlone_6 p2 (p1.toNatClampNeg - 1))) + p1) then ((rJ6_numberOfTrailingZeros_0f7a4 (aX7_lookAtAlone_6 p2 (p1.toNatClampNeg - 1))) + p1) else a7 from (by unfold sX7_lookAtAlone_7; exact (if_neg c44))])
        ·
          refine s_bipush X (pc := 47) (v := 13) dX7_lookAtAlone_47 (by decide) ?_
          refine s_goto X (pc := 49) (tgt := 59) dX7_lookAtAlone_49 (by decide) ?_
          refine s_istore X (pc := 59) (i := 5) (lv2 := [(5, .int (13 : Int32)), (0, .ref (ad 0)), (1, .int p0), (2, .int p1), (3, .int p2), (4, .int (aX7_lookAtAlone_6 p2 (p1.toNatClampNeg - 1)))]) dX7_lookAtAlone_59 (by decide) rfl ?_
          refine s_aload_n X (pc := 61) (x := (ad 0)) 1 dX7_lookAtAlone_61 rfl ?_
          refine s_aload_n X (pc := 62) (x := (ad 0)) 1 dX7_lookAtAlone_62 rfl ?_
          refine s_get X (pc := 63) (v := .int a7) iX7_lookAtAlone_X7 0 rfl rfl 7 (by decide) kX7_lookAtAlone_38 rfl rfl dX7_lookAtAlone_63 ?_
          refine s_iload X (pc := 66) (x := (13 : Int32)) 0 dX7_lookAtAlone_66 rfl ?_
          refine s_max X (pc := 68) kX7_lookAtAlone_m70 kX7_lookAtAlone_stmax kX7_lookAtAlone_inMath kX7_lookAtAlone_comax (Nat.le_of_ble_eq_true rfl) (Nat.le_of_ble_eq_true rfl) (Nat.zero_le _) (Nat.zero_le _) dX7_lookAtAlone_68 ?_
          refine s_put X (pc := 71) (v := .int (if a7 < (13 : Int32) then (13 : Int32) else a7)) (w2 := wX7 G ad a0 (upd a1 p0.toNatClampNeg p1) (upd a2 p0.toNatClampNeg (aX7_lookAtAlone_6 p2 (p1.toNatClampNeg - 1))) a3 a4 a5 a6 (if a7 < (13 : Int32) then (13 : Int32) else a7) a8) iX7_lookAtAlone_X7 0 rfl rfl 7 (by decide) kX7_lookAtAlone_38 rfl tyX7 tyX7_ok nmX7 rfl (ty := .int) (by decide +kernel) rfl rfl (Nat.le_of_ble_eq_true rfl) rfl dX7_lookAtAlone_71 ?_
          exact s_vret X (pc := 74) dX7_lookAtAlone_74 (by rw [show sX7_lookAtAlone_1 a1 p0 p1 p2 = upd a1 p0.toNatClampNeg p1 from (by unfold sX7_lookAtAlone_1; exact (if_pos c44)), show sX7_lookAtAlone_2 a2 p0 p1 p2 = upd a2 p0.toNatClampNeg (aX7_lookAtAlone_6 p2 (p1.toNatClampNeg - 1)) from (by unfold sX7_lookAtAlone_2; exact (if_pos c44)), show sX7_lookAtAlone_7 a7 p1 p2 = if a7 < (13 : Int32) then (13 : Int32) else a7 from (by unfold sX7_lookAtAlone_7; exact (if_pos c44))])
      ·
        exact absurd ((t_le eN6 tk6).mpr (by omega)) c9
    | succ n6 ih6 =>
      intro k6 hk6
      have hlt6 : k6 < (p1.toNatClampNeg - 1) := by omega
      have tk6 : (nI (k6 + 1)).toInt = ((k6 + 1 : Nat) : Int) := nI_toInt (by omega)
      have eN6 : (p1).toInt = ((p1.toNatClampNeg - 1 + 1 : Nat) : Int) := e2
      refine s_iload X (pc := 6) (x := nI (k6 + 1)) 5 dX7_lookAtAlone_6 rfl ?_
      refine s_iload_n X (pc := 8) (x := p1) 2 dX7_lookAtAlone_8 rfl ?_
      refine s_icmp_ge X (pc := 9) (tgt := 27) dX7_lookAtAlone_9 (by decide) (fun c9 => ?_) (fun c9 => ?_)
      ·
        exact absurd ((t_le eN6 tk6).mp c9) (by omega)
      ·
        refine s_iload X (pc := 12) (x := (aX7_lookAtAlone_6 p2 k6)) 4 dX7_lookAtAlone_12 rfl ?_
        refine s_iload_n X (pc := 14) (x := p2) 3 dX7_lookAtAlone_14 rfl ?_
        refine s_iload X (pc := 15) (x := nI (k6 + 1)) 5 dX7_lookAtAlone_15 rfl ?_
        refine s_ishr X (pc := 17) dX7_lookAtAlone_17 ?_
        refine s_iand X (pc := 18) dX7_lookAtAlone_18 ?_
        refine s_istore X (pc := 19) (i := 4) (lv2 := [(4, .int ((aX7_lookAtAlone_6 p2 k6) &&& (p2 >>> ((nI (k6 + 1)) &&& 31)))), (0, .ref (ad 0)), (1, .int p0), (2, .int p1), (3, .int p2), (5, .int (nI (k6 + 1)))]) dX7_lookAtAlone_19 (by decide) rfl ?_
        refine s_iinc X (pc := 21) (v := nI (k6 + 1 + 1)) (lv2 := [(5, .int (nI (k6 + 1 + 1))), (4, .int ((aX7_lookAtAlone_6 p2 k6) &&& (p2 >>> ((nI (k6 + 1)) &&& 31)))), (0, .ref (ad 0)), (1, .int p0), (2, .int p1), (3, .int p2)]) 5 dX7_lookAtAlone_21 rfl (nI_1 _) (by decide) rfl ?_
        refine s_goto X (pc := 24) (tgt := 6) dX7_lookAtAlone_24 (by decide) ?_
        refine s_perm (lv2 := [(0, .ref (ad 0)), (1, .int p0), (2, .int p1), (3, .int p2), (4, .int ((aX7_lookAtAlone_6 p2 k6) &&& (p2 >>> ((nI (k6 + 1)) &&& 31)))), (5, .int (nI (k6 + 1 + 1)))]) [2, 3, 4, 5, 1, 0] rfl ?_
        have hb6 : (aX7_lookAtAlone_6 p2 (k6 + 1)) = (aX7_lookAtAlone_6 p2 k6) &&& (p2 >>> ((nI (k6 + 1)) &&& 31)) := rfl
        refine s_cast (lv2 := [(0, .ref (ad 0)), (1, .int p0), (2, .int p1), (3, .int p2), (4, .int (aX7_lookAtAlone_6 p2 (k6 + 1))), (5, .int (nI (k6 + 1 + 1)))]) (w2 := wX7 G ad a0 a1 a2 a3 a4 a5 a6 a7 a8) (by first | (rw [hb6]; done) | rfl) (by first | (rw [hb6]; done) | rfl) ?_
        exact ih6 (k6 + 1) (by omega)
  exact L6 (p1.toNatClampNeg - 1) 0 (Nat.zero_add _)

theorem iX7_search_X0 : ∀ z ∈ wsX00, z ∈ wsX7_search := fun z h => List.mem_cons_of_mem _ (List.mem_append_right _ h)
theorem iX7_search_X2 : ∀ z ∈ wsX20, z ∈ wsX7_search := fun z h => List.mem_cons_of_mem _ (List.mem_append_left _ (List.mem_append_right _ h))
theorem iX7_search_X7 : ∀ z ∈ wsX70, z ∈ wsX7_search := fun z h => List.mem_cons_of_mem _ (List.mem_append_left _ (List.mem_append_left _ (List.mem_append_right _ h)))
theorem kX7_search_35 : Cond.fieldLink RX7 35 "BathingCourt$Planner" (TX7 6).2.1 (TX7 6).2.2.1 ∈ wsX7_search := List.mem_of_getElem? (i := 1) rfl
theorem kX7_search_38 : Cond.fieldLink RX7 38 "BathingCourt$Planner" (TX7 7).2.1 (TX7 7).2.2.1 ∈ wsX7_search := List.mem_of_getElem? (i := 2) rfl
theorem kX7_search_31 : Cond.fieldLink RX7 31 "BathingCourt$Planner" (TX7 8).2.1 (TX7 8).2.2.1 ∈ wsX7_search := List.mem_of_getElem? (i := 3) rfl
theorem kX7_search_28 : Cond.fieldLink RX7 28 "BathingCourt$Planner" (TX7 5).2.1 (TX7 5).2.2.1 ∈ wsX7_search := List.mem_of_getElem? (i := 4) rfl
theorem kX7_search_22 : Cond.fieldLink RX7 22 "BathingCourt$Planner" (TX7 3).2.1 (TX7 3).2.2.1 ∈ wsX7_search := List.mem_of_getElem? (i := 5) rfl
theorem kX7_search_25 : Cond.fieldLink RX7 25 "BathingCourt$Planner" (TX7 4).2.1 (TX7 4).2.2.1 ∈ wsX7_search := List.mem_of_getElem? (i := 6) rfl
theorem kX7_search_m70 : Cond.methodLink RX7 70 Lib.Math.max.name ∈ wsX7_search := List.mem_of_getElem? (i := 11) rfl
theorem kX7_search_stmax : Cond.static Lib.Math.max.name ∈ wsX7_search := List.mem_of_getElem? (i := 12) rfl
theorem kX7_search_inMath : Cond.initialized "java/lang/Math" ∈ wsX7_search := List.mem_of_getElem? (i := 13) rfl
theorem kX7_search_comax : Cond.code Lib.Math.max.name Lib.Math.max.code 2 (some .int) ∈ wsX7_search := List.mem_of_getElem? (i := 14) rfl
theorem kX7_search_9 : Cond.fieldLink RX7 9 "BathingCourt$Planner" (TX7 0).2.1 (TX7 0).2.2.1 ∈ wsX7_search := List.mem_of_getElem? (i := 7) rfl
theorem kX7_search_53 : Cond.fieldLink RX7 53 "BathingCourt$Day" (TX2 3).2.1 (TX2 3).2.2.1 ∈ wsX7_search := List.mem_of_getElem? (i := 8) rfl
theorem kX7_search_58 : Cond.fieldLink RX7 58 "BathingCourt$Beach" (TX0 3).2.1 (TX0 3).2.2.1 ∈ wsX7_search := List.mem_of_getElem? (i := 9) rfl
theorem kX7_search_59 : Cond.fieldLink RX7 59 "BathingCourt$Day" (TX2 5).2.1 (TX2 5).2.2.1 ∈ wsX7_search := List.mem_of_getElem? (i := 10) rfl
def aX7_search_46 (a0 a1 a2 b0 b2 b3 b4 : Nat → Int32) (b6 b8 : Int32) (g3 : Nat → Int32) (g5 : Int32) : Nat → Int32 × (Nat → Int32) × (Nat → Int32) × (Nat → Int32) × Int32
  | 0 => ((0 : Int32), a0, a1, a2, (0 : Int32))
  | k46 + 1 => if (rX0_hasCase b8 (nI k46)) = 0 then ((aX7_search_46 a0 a1 a2 b0 b2 b3 b4 b6 b8 g3 g5 k46).1, upd ((aX7_search_46 a0 a1 a2 b0 b2 b3 b4 b6 b8 g3 g5 k46).2.1) (nI k46).toNatClampNeg (0 : Int32), (aX7_search_46 a0 a1 a2 b0 b2 b3 b4 b6 b8 g3 g5 k46).2.2.1, (aX7_search_46 a0 a1 a2 b0 b2 b3 b4 b6 b8 g3 g5 k46).2.2.2.1, (aX7_search_46 a0 a1 a2 b0 b2 b3 b4 b6 b8 g3 g5 k46).2.2.2.2) else (if (g3 (nI k46).toNatClampNeg) = 0 then (((aX7_search_46 a0 a1 a2 b0 b2 b3 b4 b6 b8 g3 g5 k46).1) + (b3 (nI k46).toNatClampNeg), upd ((aX7_search_46 a0 a1 a2 b0 b2 b3 b4 b6 b8 g3 g5 k46).2.1) (nI k46).toNatClampNeg (1 : Int32), sX7_lookAtAlone_1 ((aX7_search_46 a0 a1 a2 b0 b2 b3 b4 b6 b8 g3 g5 k46).2.2.1) (nI k46) (b3 (nI k46).toNatClampNeg) (rX0_hoursOpen b0 b2 b4 b6 (nI k46) g5), sX7_lookAtAlone_2 ((aX7_search_46 a0 a1 a2 b0 b2 b3 b4 b6 b8 g3 g5 k46).2.2.2.1) (nI k46) (b3 (nI k46).toNatClampNeg) (rX0_hoursOpen b0 b2 b4 b6 (nI k46) g5), sX7_lookAtAlone_7 ((aX7_search_46 a0 a1 a2 b0 b2 b3 b4 b6 b8 g3 g5 k46).2.2.2.2) (b3 (nI k46).toNatClampNeg) (rX0_hoursOpen b0 b2 b4 b6 (nI k46) g5)) else ((aX7_search_46 a0 a1 a2 b0 b2 b3 b4 b6 b8 g3 g5 k46).1, upd ((aX7_search_46 a0 a1 a2 b0 b2 b3 b4 b6 b8 g3 g5 k46).2.1) (nI k46).toNatClampNeg (0 : Int32), (aX7_search_46 a0 a1 a2 b0 b2 b3 b4 b6 b8 g3 g5 k46).2.2.1, (aX7_search_46 a0 a1 a2 b0 b2 b3 b4 b6 b8 g3 g5 k46).2.2.2.1, (aX7_search_46 a0 a1 a2 b0 b2 b3 b4 b6 b8 g3 g5 k46).2.2.2.2))
def sX7_search_0 (a0 a1 a2 b0 b2 b3 b4 : Nat → Int32) (b6 b8 : Int32) (g3 : Nat → Int32) (g5 : Int32) : Nat → Int32 := (aX7_search_46 a0 a1 a2 b0 b2 b3 b4 b6 b8 g3 g5 5).2.1
def sX7_search_1 (a0 a1 a2 b0 b2 b3 b4 : Nat → Int32) (b6 b8 : Int32) (g3 : Nat → Int32) (g5 : Int32) : Nat → Int32 := (aX7_search_46 a0 a1 a2 b0 b2 b3 b4 b6 b8 g3 g5 5).2.2.1
def sX7_search_2 (a0 a1 a2 b0 b2 b3 b4 : Nat → Int32) (b6 b8 : Int32) (g3 : Nat → Int32) (g5 : Int32) : Nat → Int32 := (aX7_search_46 a0 a1 a2 b0 b2 b3 b4 b6 b8 g3 g5 5).2.2.2.1
def sX7_search_3 (a0 a1 a2 a3 a4 a5 b0 b2 b3 b4 : Nat → Int32) (b6 b8 : Int32) (g3 : Nat → Int32) (g5 p0 : Int32) : Nat → Int32 := (pfX7 ((aX7_search_46 a0 a1 a2 b0 b2 b3 b4 b6 b8 g3 g5 5).2.1) ((aX7_search_46 a0 a1 a2 b0 b2 b3 b4 b6 b8 g3 g5 5).2.2.1) ((aX7_search_46 a0 a1 a2 b0 b2 b3 b4 b6 b8 g3 g5 5).2.2.2.1) p0 (if ((aX7_search_46 a0 a1 a2 b0 b2 b3 b4 b6 b8 g3 g5 5).2.2.2.2) < (((((aX7_search_46 a0 a1 a2 b0 b2 b3 b4 b6 b8 g3 g5 5).1) + p0) - (1 : Int32)) / p0) then (((((aX7_search_46 a0 a1 a2 b0 b2 b3 b4 b6 b8 g3 g5 5).1) + p0) - (1 : Int32)) / p0) else ((aX7_search_46 a0 a1 a2 b0 b2 b3 b4 b6 b8 g3 g5 5).2.2.2.2)) 5 (0 : Int32) (0 : Int32) ((sJ7_fill_53178_free_a 5 a3 (-1 : Int32)), (sJ7_fill_53178_free_a 5 a4 (-1 : Int32)), (sJ7_fill_53178_free_a 12 a5 (0 : Int32)), (13 : Int32))).1
def sX7_search_4 (a0 a1 a2 a3 a4 a5 b0 b2 b3 b4 : Nat → Int32) (b6 b8 : Int32) (g3 : Nat → Int32) (g5 p0 : Int32) : Nat → Int32 := (pfX7 ((aX7_search_46 a0 a1 a2 b0 b2 b3 b4 b6 b8 g3 g5 5).2.1) ((aX7_search_46 a0 a1 a2 b0 b2 b3 b4 b6 b8 g3 g5 5).2.2.1) ((aX7_search_46 a0 a1 a2 b0 b2 b3 b4 b6 b8 g3 g5 5).2.2.2.1) p0 (if ((aX7_search_46 a0 a1 a2 b0 b2 b3 b4 b6 b8 g3 g5 5).2.2.2.2) < (((((aX7_search_46 a0 a1 a2 b0 b2 b3 b4 b6 b8 g3 g5 5).1) + p0) - (1 : Int32)) / p0) then (((((aX7_search_46 a0 a1 a2 b0 b2 b3 b4 b6 b8 g3 g5 5).1) + p0) - (1 : Int32)) / p0) else ((aX7_search_46 a0 a1 a2 b0 b2 b3 b4 b6 b8 g3 g5 5).2.2.2.2)) 5 (0 : Int32) (0 : Int32) ((sJ7_fill_53178_free_a 5 a3 (-1 : Int32)), (sJ7_fill_53178_free_a 5 a4 (-1 : Int32)), (sJ7_fill_53178_free_a 12 a5 (0 : Int32)), (13 : Int32))).2.1
def sX7_search_5 (a0 a1 a2 a3 a4 a5 b0 b2 b3 b4 : Nat → Int32) (b6 b8 : Int32) (g3 : Nat → Int32) (g5 p0 : Int32) : Nat → Int32 := (pfX7 ((aX7_search_46 a0 a1 a2 b0 b2 b3 b4 b6 b8 g3 g5 5).2.1) ((aX7_search_46 a0 a1 a2 b0 b2 b3 b4 b6 b8 g3 g5 5).2.2.1) ((aX7_search_46 a0 a1 a2 b0 b2 b3 b4 b6 b8 g3 g5 5).2.2.2.1) p0 (if ((aX7_search_46 a0 a1 a2 b0 b2 b3 b4 b6 b8 g3 g5 5).2.2.2.2) < (((((aX7_search_46 a0 a1 a2 b0 b2 b3 b4 b6 b8 g3 g5 5).1) + p0) - (1 : Int32)) / p0) then (((((aX7_search_46 a0 a1 a2 b0 b2 b3 b4 b6 b8 g3 g5 5).1) + p0) - (1 : Int32)) / p0) else ((aX7_search_46 a0 a1 a2 b0 b2 b3 b4 b6 b8 g3 g5 5).2.2.2.2)) 5 (0 : Int32) (0 : Int32) ((sJ7_fill_53178_free_a 5 a3 (-1 : Int32)), (sJ7_fill_53178_free_a 5 a4 (-1 : Int32)), (sJ7_fill_53178_free_a 12 a5 (0 : Int32)), (13 : Int32))).2.2.1
def sX7_search_6 (p0 : Int32) : Int32 := p0
def sX7_search_7 (a0 a1 a2 b0 b2 b3 b4 : Nat → Int32) (b6 b8 : Int32) (g3 : Nat → Int32) (g5 p0 : Int32) : Int32 := if ((aX7_search_46 a0 a1 a2 b0 b2 b3 b4 b6 b8 g3 g5 5).2.2.2.2) < (((((aX7_search_46 a0 a1 a2 b0 b2 b3 b4 b6 b8 g3 g5 5).1) + p0) - (1 : Int32)) / p0) then (((((aX7_search_46 a0 a1 a2 b0 b2 b3 b4 b6 b8 g3 g5 5).1) + p0) - (1 : Int32)) / p0) else ((aX7_search_46 a0 a1 a2 b0 b2 b3 b4 b6 b8 g3 g5 5).2.2.2.2)
def sX7_search_8 (a0 a1 a2 a3 a4 a5 b0 b2 b3 b4 : Nat → Int32) (b6 b8 : Int32) (g3 : Nat → Int32) (g5 p0 : Int32) : Int32 := (pfX7 ((aX7_search_46 a0 a1 a2 b0 b2 b3 b4 b6 b8 g3 g5 5).2.1) ((aX7_search_46 a0 a1 a2 b0 b2 b3 b4 b6 b8 g3 g5 5).2.2.1) ((aX7_search_46 a0 a1 a2 b0 b2 b3 b4 b6 b8 g3 g5 5).2.2.2.1) p0 (if ((aX7_search_46 a0 a1 a2 b0 b2 b3 b4 b6 b8 g3 g5 5).2.2.2.2) < (((((aX7_search_46 a0 a1 a2 b0 b2 b3 b4 b6 b8 g3 g5 5).1) + p0) - (1 : Int32)) / p0) then (((((aX7_search_46 a0 a1 a2 b0 b2 b3 b4 b6 b8 g3 g5 5).1) + p0) - (1 : Int32)) / p0) else ((aX7_search_46 a0 a1 a2 b0 b2 b3 b4 b6 b8 g3 g5 5).2.2.2.2)) 5 (0 : Int32) (0 : Int32) ((sJ7_fill_53178_free_a 5 a3 (-1 : Int32)), (sJ7_fill_53178_free_a 5 a4 (-1 : Int32)), (sJ7_fill_53178_free_a 12 a5 (0 : Int32)), (13 : Int32))).2.2.2
set_option maxRecDepth 100000 in
set_option maxHeartbeats 4000000 in
theorem c_X7_search (l : Launch) (G : GT) (ad : Nat → Nat) (bd : Nat → Nat) (cd : Nat → Nat) (a0 a1 a2 a3 a4 a5 : Nat → Int32) (a6 a7 a8 : Int32) (b0 b1 b2 b3 b4 b5 : Nat → Int32) (b6 b7 b8 : Int32) (g0 g1 g2 g3 g4 : Nat → Int32) (g5 p0 : Int32) (hT : b6 ≤ 12) (h5 : b8 ≤ 5) (hL : ∀ j : Nat, j < 5 → ¬ rX0_hasCase b8 (nI j) = 0 → 1 ≤ b3 j ∧ b3 j ≤ 4) (hm : 0 < p0) : Cv l G yX7_search wsX7_search (rmL 8) [.ref (ad 0), .ref (bd 0), .ref (cd 0), .int p0] (wX7 G ad a0 a1 a2 a3 a4 a5 a6 a7 a8 ++ wX0 G bd b0 b1 b2 b3 b4 b5 b6 b7 b8 ++ wX2 G cd g0 g1 g2 g3 g4 g5) (wX7 G ad (sX7_search_0 a0 a1 a2 b0 b2 b3 b4 b6 b8 g3 g5) (sX7_search_1 a0 a1 a2 b0 b2 b3 b4 b6 b8 g3 g5) (sX7_search_2 a0 a1 a2 b0 b2 b3 b4 b6 b8 g3 g5) (sX7_search_3 a0 a1 a2 a3 a4 a5 b0 b2 b3 b4 b6 b8 g3 g5 p0) (sX7_search_4 a0 a1 a2 a3 a4 a5 b0 b2 b3 b4 b6 b8 g3 g5 p0) (sX7_search_5 a0 a1 a2 a3 a4 a5 b0 b2 b3 b4 b6 b8 g3 g5 p0) (sX7_search_6 p0) (sX7_search_7 a0 a1 a2 b0 b2 b3 b4 b6 b8 g3 g5 p0) (sX7_search_8 a0 a1 a2 a3 a4 a5 b0 b2 b3 b4 b6 b8 g3 g5 p0) ++ wX0 G bd b0 b1 b2 b3 b4 b5 b6 b7 b8 ++ wX2 G cd g0 g1 g2 g3 g4 g5) := by
  refine cv_start (by decide) rfl rfl (Nat.le_of_ble_eq_true rfl) ?_
  intro p e s m args below meth c A X
  refine s_perm (lv2 := [(0, .ref (ad 0)), (1, .ref (bd 0)), (2, .ref (cd 0)), (3, .int p0)]) [0, 1, 2, 3] rfl ?_
  refine s_aload_n X (pc := 0) (x := (ad 0)) 0 dX7_search_0 rfl ?_
  refine s_iload_n X (pc := 1) (x := p0) 3 dX7_search_1 rfl ?_
  refine s_put X (pc := 2) (v := .int p0) (w2 := wX7 G ad a0 a1 a2 a3 a4 a5 p0 a7 a8 ++ wX0 G bd b0 b1 b2 b3 b4 b5 b6 b7 b8 ++ wX2 G cd g0 g1 g2 g3 g4 g5) iX7_search_X7 0 rfl rfl 6 (by decide) kX7_search_35 rfl tyX7 tyX7_ok nmX7 rfl (ty := .int) (by decide +kernel) rfl rfl (Nat.le_of_ble_eq_true rfl) rfl dX7_search_2 ?_
  refine s_aload_n X (pc := 5) (x := (ad 0)) 0 dX7_search_5 rfl ?_
  refine s_iconst X (pc := 6) (v := 0) dX7_search_6 (by decide) ?_
  refine s_put X (pc := 7) (v := .int (0 : Int32)) (w2 := wX7 G ad a0 a1 a2 a3 a4 a5 p0 (0 : Int32) a8 ++ wX0 G bd b0 b1 b2 b3 b4 b5 b6 b7 b8 ++ wX2 G cd g0 g1 g2 g3 g4 g5) iX7_search_X7 0 rfl rfl 7 (by decide) kX7_search_38 rfl tyX7 tyX7_ok nmX7 rfl (ty := .int) (by decide +kernel) rfl rfl (Nat.le_of_ble_eq_true rfl) rfl dX7_search_7 ?_
  refine s_aload_n X (pc := 10) (x := (ad 0)) 0 dX7_search_10 rfl ?_
  refine s_bipush X (pc := 11) (v := 13) dX7_search_11 (by decide) ?_
  refine s_put X (pc := 13) (v := .int (13 : Int32)) (w2 := wX7 G ad a0 a1 a2 a3 a4 a5 p0 (0 : Int32) (13 : Int32) ++ wX0 G bd b0 b1 b2 b3 b4 b5 b6 b7 b8 ++ wX2 G cd g0 g1 g2 g3 g4 g5) iX7_search_X7 0 rfl rfl 8 (by decide) kX7_search_31 rfl tyX7 tyX7_ok nmX7 rfl (ty := .int) (by decide +kernel) rfl rfl (Nat.le_of_ble_eq_true rfl) rfl dX7_search_13 ?_
  refine s_aload_n X (pc := 16) (x := (ad 0)) 0 dX7_search_16 rfl ?_
  refine s_get X (pc := 17) (v := .ref (ad 6)) iX7_search_X7 0 rfl rfl 5 (by decide) kX7_search_28 rfl rfl dX7_search_17 ?_
  refine s_iconst X (pc := 20) (v := 0) dX7_search_20 (by decide) ?_
  refine s_callSv X (pc := 21) (w := wX7 G ad a0 a1 a2 a3 a4 a5 p0 (0 : Int32) (13 : Int32) ++ wX0 G bd b0 b1 b2 b3 b4 b5 b6 b7 b8 ++ wX2 G cd g0 g1 g2 g3 g4 g5) (n := 2) (st := []) (As := [.ref (ad 6), .int (0 : Int32)]) (w2 := wX7 G ad a0 a1 a2 a3 a4 (sJ7_fill_53178_free_a 12 a5 (0 : Int32)) p0 (0 : Int32) (13 : Int32) ++ wX0 G bd b0 b1 b2 b3 b4 b5 b6 b7 b8 ++ wX2 G cd g0 g1 g2 g3 g4 g5) 0 (c_J7_fill_53178 l G (ad 6) 12 a5 (0 : Int32) (by decide)) gX7_search_J7_fill_53178 rfl (by decide +kernel) ⟨Nat.le_of_ble_eq_true rfl, Nat.le_of_ble_eq_true rfl⟩ [6] rfl rfl rfl rfl [ad 0, ad 1, ad 2, ad 3, ad 4, ad 5, ad 6, bd 0, bd 1, bd 2, bd 3, bd 4, bd 5, bd 6, cd 0, cd 1, cd 2, cd 3, cd 4, cd 5] rfl rfl rfl rfl (Nat.le_of_ble_eq_true rfl) (Nat.zero_le _) (Nat.zero_le _) dX7_search_21 ?_
  refine s_aload_n X (pc := 24) (x := (ad 0)) 0 dX7_search_24 rfl ?_
  refine s_get X (pc := 25) (v := .ref (ad 4)) iX7_search_X7 0 rfl rfl 3 (by decide) kX7_search_22 rfl rfl dX7_search_25 ?_
  refine s_iconst X (pc := 28) (v := -1) dX7_search_28 (by decide) ?_
  refine s_callSv X (pc := 29) (w := wX7 G ad a0 a1 a2 a3 a4 (sJ7_fill_53178_free_a 12 a5 (0 : Int32)) p0 (0 : Int32) (13 : Int32) ++ wX0 G bd b0 b1 b2 b3 b4 b5 b6 b7 b8 ++ wX2 G cd g0 g1 g2 g3 g4 g5) (n := 2) (st := []) (As := [.ref (ad 4), .int (-1 : Int32)]) (w2 := wX7 G ad a0 a1 a2 (sJ7_fill_53178_free_a 5 a3 (-1 : Int32)) a4 (sJ7_fill_53178_free_a 12 a5 (0 : Int32)) p0 (0 : Int32) (13 : Int32) ++ wX0 G bd b0 b1 b2 b3 b4 b5 b6 b7 b8 ++ wX2 G cd g0 g1 g2 g3 g4 g5) 0 (c_J7_fill_53178 l G (ad 4) 5 a3 (-1 : Int32) (by decide)) gX7_search_J7_fill_53178 rfl (by decide +kernel) ⟨Nat.le_of_ble_eq_true rfl, Nat.le_of_ble_eq_true rfl⟩ [4] rfl rfl rfl rfl [ad 0, ad 1, ad 2, ad 3, ad 4, ad 5, ad 6, bd 0, bd 1, bd 2, bd 3, bd 4, bd 5, bd 6, cd 0, cd 1, cd 2, cd 3, cd 4, cd 5] rfl rfl rfl rfl (Nat.le_of_ble_eq_true rfl) (Nat.zero_le _) (Nat.zero_le _) dX7_search_29 ?_
  refine s_aload_n X (pc := 32) (x := (ad 0)) 0 dX7_search_32 rfl ?_
  refine s_get X (pc := 33) (v := .ref (ad 5)) iX7_search_X7 0 rfl rfl 4 (by decide) kX7_search_25 rfl rfl dX7_search_33 ?_
  refine s_iconst X (pc := 36) (v := -1) dX7_search_36 (by decide) ?_
  refine s_callSv X (pc := 37) (w := wX7 G ad a0 a1 a2 (sJ7_fill_53178_free_a 5 a3 (-1 : Int32)) a4 (sJ7_fill_53178_free_a 12 a5 (0 : Int32)) p0 (0 : Int32) (13 : Int32) ++ wX0 G bd b0 b1 b2 b3 b4 b5 b6 b7 b8 ++ wX2 G cd g0 g1 g2 g3 g4 g5) (n := 2) (st := []) (As := [.ref (ad 5), .int (-1 : Int32)]) (w2 := wX7 G ad a0 a1 a2 (sJ7_fill_53178_free_a 5 a3 (-1 : Int32)) (sJ7_fill_53178_free_a 5 a4 (-1 : Int32)) (sJ7_fill_53178_free_a 12 a5 (0 : Int32)) p0 (0 : Int32) (13 : Int32) ++ wX0 G bd b0 b1 b2 b3 b4 b5 b6 b7 b8 ++ wX2 G cd g0 g1 g2 g3 g4 g5) 0 (c_J7_fill_53178 l G (ad 5) 5 a4 (-1 : Int32) (by decide)) gX7_search_J7_fill_53178 rfl (by decide +kernel) ⟨Nat.le_of_ble_eq_true rfl, Nat.le_of_ble_eq_true rfl⟩ [5] rfl rfl rfl rfl [ad 0, ad 1, ad 2, ad 3, ad 4, ad 5, ad 6, bd 0, bd 1, bd 2, bd 3, bd 4, bd 5, bd 6, cd 0, cd 1, cd 2, cd 3, cd 4, cd 5] rfl rfl rfl rfl (Nat.le_of_ble_eq_true rfl) (Nat.zero_le _) (Nat.zero_le _) dX7_search_37 ?_
  refine s_iconst X (pc := 40) (v := 0) dX7_search_40 (by decide) ?_
  refine s_istore X (pc := 41) (i := 4) (lv2 := [(4, .int (0 : Int32)), (0, .ref (ad 0)), (1, .ref (bd 0)), (2, .ref (cd 0)), (3, .int p0)]) dX7_search_41 (by decide) rfl ?_
  refine s_iconst X (pc := 43) (v := 0) dX7_search_43 (by decide) ?_
  refine s_istore X (pc := 44) (i := 5) (lv2 := [(5, .int (0 : Int32)), (4, .int (0 : Int32)), (0, .ref (ad 0)), (1, .ref (bd 0)), (2, .ref (cd 0)), (3, .int p0)]) dX7_search_44 (by decide) rfl ?_
  refine s_perm (lv2 := [(0, .ref (ad 0)), (1, .ref (bd 0)), (2, .ref (cd 0)), (3, .int p0), (4, .int (0 : Int32)), (5, .int (0 : Int32))]) [2, 3, 4, 5, 1, 0] rfl ?_
  have L46 : ∀ (n46 k46 : Nat), k46 + n46 = 5 → Sm p l e (rmL 8) s m args below meth c G A 6 0 0 (Qcv below G A args s (wX7 G ad (sX7_search_0 a0 a1 a2 b0 b2 b3 b4 b6 b8 g3 g5) (sX7_search_1 a0 a1 a2 b0 b2 b3 b4 b6 b8 g3 g5) (sX7_search_2 a0 a1 a2 b0 b2 b3 b4 b6 b8 g3 g5) (sX7_search_3 a0 a1 a2 a3 a4 a5 b0 b2 b3 b4 b6 b8 g3 g5 p0) (sX7_search_4 a0 a1 a2 a3 a4 a5 b0 b2 b3 b4 b6 b8 g3 g5 p0) (sX7_search_5 a0 a1 a2 a3 a4 a5 b0 b2 b3 b4 b6 b8 g3 g5 p0) (sX7_search_6 p0) (sX7_search_7 a0 a1 a2 b0 b2 b3 b4 b6 b8 g3 g5 p0) (sX7_search_8 a0 a1 a2 a3 a4 a5 b0 b2 b3 b4 b6 b8 g3 g5 p0) ++ wX0 G bd b0 b1 b2 b3 b4 b5 b6 b7 b8 ++ wX2 G cd g0 g1 g2 g3 g4 g5)) 46 [(0, .ref (ad 0)), (1, .ref (bd 0)), (2, .ref (cd 0)), (3, .int p0), (4, .int ((aX7_search_46 a0 a1 a2 b0 b2 b3 b4 b6 b8 g3 g5 k46).1)), (5, .int (nI k46))] [] (wX7 G ad ((aX7_search_46 a0 a1 a2 b0 b2 b3 b4 b6 b8 g3 g5 k46).2.1) ((aX7_search_46 a0 a1 a2 b0 b2 b3 b4 b6 b8 g3 g5 k46).2.2.1) ((aX7_search_46 a0 a1 a2 b0 b2 b3 b4 b6 b8 g3 g5 k46).2.2.2.1) (sJ7_fill_53178_free_a 5 a3 (-1 : Int32)) (sJ7_fill_53178_free_a 5 a4 (-1 : Int32)) (sJ7_fill_53178_free_a 12 a5 (0 : Int32)) p0 ((aX7_search_46 a0 a1 a2 b0 b2 b3 b4 b6 b8 g3 g5 k46).2.2.2.2) (13 : Int32) ++ wX0 G bd b0 b1 b2 b3 b4 b5 b6 b7 b8 ++ wX2 G cd g0 g1 g2 g3 g4 g5) := by
    intro n46
    induction n46 with
    | zero =>
      intro k46 hk46
      have hK46 : k46 = 5 := by omega
      rw [hK46]
      have tk46 : (nI 5).toInt = ((5 : Nat) : Int) := nI_toInt (by omega)
      have eN46 : ((5 : Int32)).toInt = ((5 : Nat) : Int) := rfl
      refine s_iload X (pc := 46) (x := nI 5) 5 dX7_search_46 rfl ?_
      refine s_iconst X (pc := 48) (v := 5) dX7_search_48 (by decide) ?_
      refine s_icmp_ge X (pc := 49) (tgt := 134) dX7_search_49 (by decide) (fun c49 => ?_) (fun c49 => ?_)
      ·
        refine s_aload_n X (pc := 134) (x := (ad 0)) 0 dX7_search_134 rfl ?_
        refine s_aload_n X (pc := 135) (x := (ad 0)) 0 dX7_search_135 rfl ?_
        refine s_get X (pc := 136) (v := .int ((aX7_search_46 a0 a1 a2 b0 b2 b3 b4 b6 b8 g3 g5 5).2.2.2.2)) iX7_search_X7 0 rfl rfl 7 (by decide) kX7_search_38 rfl rfl dX7_search_136 ?_
        refine s_iload_n X (pc := 139) (x := p0) 3 dX7_search_139 rfl ?_
        refine s_if_gt X (pc := 140) (tgt := 148) dX7_search_140 (by decide) (fun c140 => ?_) (fun c140 => ?_)
        ·
          refine s_iload X (pc := 148) (x := (aX7_search_46 a0 a1 a2 b0 b2 b3 b4 b6 b8 g3 g5 5).1) 4 dX7_search_148 rfl ?_
          refine s_iload_n X (pc := 150) (x := p0) 3 dX7_search_150 rfl ?_
          refine s_iadd X (pc := 151) dX7_search_151 ?_
          refine s_iconst X (pc := 152) (v := 1) dX7_search_152 (by decide) ?_
          refine s_isub X (pc := 153) dX7_search_153 ?_
          refine s_iload_n X (pc := 154) (x := p0) 3 dX7_search_154 rfl ?_
          refine s_idiv X (pc := 155) dX7_search_155 (by grind) ?_
          refine s_max X (pc := 156) kX7_search_m70 kX7_search_stmax kX7_search_inMath kX7_search_comax (Nat.le_of_ble_eq_true rfl) (Nat.le_of_ble_eq_true rfl) (Nat.zero_le _) (Nat.zero_le _) dX7_search_156 ?_
          refine s_put X (pc := 159) (v := .int (if ((aX7_search_46 a0 a1 a2 b0 b2 b3 b4 b6 b8 g3 g5 5).2.2.2.2) < (((((aX7_search_46 a0 a1 a2 b0 b2 b3 b4 b6 b8 g3 g5 5).1) + p0) - (1 : Int32)) / p0) then (((((aX7_search_46 a0 a1 a2 b0 b2 b3 b4 b6 b8 g3 g5 5).1) + p0) - (1 : Int32)) / p0) else ((aX7_search_46 a0 a1 a2 b0 b2 b3 b4 b6 b8 g3 g5 5).2.2.2.2))) (w2 := wX7 G ad ((aX7_search_46 a0 a1 a2 b0 b2 b3 b4 b6 b8 g3 g5 5).2.1) ((aX7_search_46 a0 a1 a2 b0 b2 b3 b4 b6 b8 g3 g5 5).2.2.1) ((aX7_search_46 a0 a1 a2 b0 b2 b3 b4 b6 b8 g3 g5 5).2.2.2.1) (sJ7_fill_53178_free_a 5 a3 (-1 : Int32)) (sJ7_fill_53178_free_a 5 a4 (-1 : Int32)) (sJ7_fill_53178_free_a 12 a5 (0 : Int32)) p0 (if ((aX7_search_46 a0 a1 a2 b0 b2 b3 b4 b6 b8 g3 g5 5).2.2.2.2) < (((((aX7_search_46 a0 a1 a2 b0 b2 b3 b4 b6 b8 g3 g5 5).1) + p0) - (1 : Int32)) / p0) then (((((aX7_search_46 a0 a1 a2 b0 b2 b3 b4 b6 b8 g3 g5 5).1) + p0) - (1 : Int32)) / p0) else ((aX7_search_46 a0 a1 a2 b0 b2 b3 b4 b6 b8 g3 g5 5).2.2.2.2)) (13 : Int32) ++ wX0 G bd b0 b1 b2 b3 b4 b5 b6 b7 b8 ++ wX2 G cd g0 g1 g2 g3 g4 g5) iX7_search_X7 0 rfl rfl 7 (by decide) kX7_search_38 rfl tyX7 tyX7_ok nmX7 rfl (ty := .int) (by decide +kernel) rfl rfl (Nat.le_of_ble_eq_true rfl) rfl dX7_search_159 ?_
          refine s_aload_n X (pc := 162) (x := (ad 0)) 0 dX7_search_162 rfl ?_
          refine s_iconst X (pc := 163) (v := 0) dX7_search_163 (by decide) ?_
          refine s_iconst X (pc := 164) (v := 0) dX7_search_164 (by decide) ?_
          refine s_callSv X (pc := 165) (w := wX7 G ad ((aX7_search_46 a0 a1 a2 b0 b2 b3 b4 b6 b8 g3 g5 5).2.1) ((aX7_search_46 a0 a1 a2 b0 b2 b3 b4 b6 b8 g3 g5 5).2.2.1) ((aX7_search_46 a0 a1 a2 b0 b2 b3 b4 b6 b8 g3 g5 5).2.2.2.1) (sJ7_fill_53178_free_a 5 a3 (-1 : Int32)) (sJ7_fill_53178_free_a 5 a4 (-1 : Int32)) (sJ7_fill_53178_free_a 12 a5 (0 : Int32)) p0 (if ((aX7_search_46 a0 a1 a2 b0 b2 b3 b4 b6 b8 g3 g5 5).2.2.2.2) < (((((aX7_search_46 a0 a1 a2 b0 b2 b3 b4 b6 b8 g3 g5 5).1) + p0) - (1 : Int32)) / p0) then (((((aX7_search_46 a0 a1 a2 b0 b2 b3 b4 b6 b8 g3 g5 5).1) + p0) - (1 : Int32)) / p0) else ((aX7_search_46 a0 a1 a2 b0 b2 b3 b4 b6 b8 g3 g5 5).2.2.2.2)) (13 : Int32) ++ wX0 G bd b0 b1 b2 b3 b4 b5 b6 b7 b8 ++ wX2 G cd g0 g1 g2 g3 g4 g5) (n := 3) (st := []) (As := [.ref (ad 0), .int (0 : Int32), .int (0 : Int32)]) (w2 := wX7 G ad ((aX7_search_46 a0 a1 a2 b0 b2 b3 b4 b6 b8 g3 g5 5).2.1) ((aX7_search_46 a0 a1 a2 b0 b2 b3 b4 b6 b8 g3 g5 5).2.2.1) ((aX7_search_46 a0 a1 a2 b0 b2 b3 b4 b6 b8 g3 g5 5).2.2.2.1) ((pfX7 ((aX7_search_46 a0 a1 a2 b0 b2 b3 b4 b6 b8 g3 g5 5).2.1) ((aX7_search_46 a0 a1 a2 b0 b2 b3 b4 b6 b8 g3 g5 5).2.2.1) ((aX7_search_46 a0 a1 a2 b0 b2 b3 b4 b6 b8 g3 g5 5).2.2.2.1) p0 (if ((aX7_search_46 a0 a1 a2 b0 b2 b3 b4 b6 b8 g3 g5 5).2.2.2.2) < (((((aX7_search_46 a0 a1 a2 b0 b2 b3 b4 b6 b8 g3 g5 5).1) + p0) - (1 : Int32)) / p0) then (((((aX7_search_46 a0 a1 a2 b0 b2 b3 b4 b6 b8 g3 g5 5).1) + p0) - (1 : Int32)) / p0) else ((aX7_search_46 a0 a1 a2 b0 b2 b3 b4 b6 b8 g3 g5 5).2.2.2.2)) 5 (0 : Int32) (0 : Int32) ((sJ7_fill_53178_free_a 5 a3 (-1 : Int32)), (sJ7_fill_53178_free_a 5 a4 (-1 : Int32)), (sJ7_fill_53178_free_a 12 a5 (0 : Int32)), (13 : Int32))).1) ((pfX7 ((aX7_search_46 a0 a1 a2 b0 b2 b3 b4 b6 b8 g3 g5 5).2.1) ((aX7_search_46 a0 a1 a2 b0 b2 b3 b4 b6 b8 g3 g5 5).2.2.1) ((aX7_search_46 a0 a1 a2 b0 b2 b3 b4 b6 b8 g3 g5 5).2.2.2.1) p0 (if ((aX7_search_46 a0 a1 a2 b0 b2 b3 b4 b6 b8 g3 g5 5).2.2.2.2) < (((((aX7_search_46 a0 a1 a2 b0 b2 b3 b4 b6 b8 g3 g5 5).1) + p0) - (1 : Int32)) / p0) then (((((aX7_search_46 a0 a1 a2 b0 b2 b3 b4 b6 b8 g3 g5 5).1) + p0) - (1 : Int32)) / p0) else ((aX7_search_46 a0 a1 a2 b0 b2 b3 b4 b6 b8 g3 g5 5).2.2.2.2)) 5 (0 : Int32) (0 : Int32) ((sJ7_fill_53178_free_a 5 a3 (-1 : Int32)), (sJ7_fill_53178_free_a 5 a4 (-1 : Int32)), (sJ7_fill_53178_free_a 12 a5 (0 : Int32)), (13 : Int32))).2.1) ((pfX7 ((aX7_search_46 a0 a1 a2 b0 b2 b3 b4 b6 b8 g3 g5 5).2.1) ((aX7_search_46 a0 a1 a2 b0 b2 b3 b4 b6 b8 g3 g5 5).2.2.1) ((aX7_search_46 a0 a1 a2 b0 b2 b3 b4 b6 b8 g3 g5 5).2.2.2.1) p0 (if ((aX7_search_46 a0 a1 a2 b0 b2 b3 b4 b6 b8 g3 g5 5).2.2.2.2) < (((((aX7_search_46 a0 a1 a2 b0 b2 b3 b4 b6 b8 g3 g5 5).1) + p0) - (1 : Int32)) / p0) then (((((aX7_search_46 a0 a1 a2 b0 b2 b3 b4 b6 b8 g3 g5 5).1) + p0) - (1 : Int32)) / p0) else ((aX7_search_46 a0 a1 a2 b0 b2 b3 b4 b6 b8 g3 g5 5).2.2.2.2)) 5 (0 : Int32) (0 : Int32) ((sJ7_fill_53178_free_a 5 a3 (-1 : Int32)), (sJ7_fill_53178_free_a 5 a4 (-1 : Int32)), (sJ7_fill_53178_free_a 12 a5 (0 : Int32)), (13 : Int32))).2.2.1) p0 (if ((aX7_search_46 a0 a1 a2 b0 b2 b3 b4 b6 b8 g3 g5 5).2.2.2.2) < (((((aX7_search_46 a0 a1 a2 b0 b2 b3 b4 b6 b8 g3 g5 5).1) + p0) - (1 : Int32)) / p0) then (((((aX7_search_46 a0 a1 a2 b0 b2 b3 b4 b6 b8 g3 g5 5).1) + p0) - (1 : Int32)) / p0) else ((aX7_search_46 a0 a1 a2 b0 b2 b3 b4 b6 b8 g3 g5 5).2.2.2.2)) ((pfX7 ((aX7_search_46 a0 a1 a2 b0 b2 b3 b4 b6 b8 g3 g5 5).2.1) ((aX7_search_46 a0 a1 a2 b0 b2 b3 b4 b6 b8 g3 g5 5).2.2.1) ((aX7_search_46 a0 a1 a2 b0 b2 b3 b4 b6 b8 g3 g5 5).2.2.2.1) p0 (if ((aX7_search_46 a0 a1 a2 b0 b2 b3 b4 b6 b8 g3 g5 5).2.2.2.2) < (((((aX7_search_46 a0 a1 a2 b0 b2 b3 b4 b6 b8 g3 g5 5).1) + p0) - (1 : Int32)) / p0) then (((((aX7_search_46 a0 a1 a2 b0 b2 b3 b4 b6 b8 g3 g5 5).1) + p0) - (1 : Int32)) / p0) else ((aX7_search_46 a0 a1 a2 b0 b2 b3 b4 b6 b8 g3 g5 5).2.2.2.2)) 5 (0 : Int32) (0 : Int32) ((sJ7_fill_53178_free_a 5 a3 (-1 : Int32)), (sJ7_fill_53178_free_a 5 a4 (-1 : Int32)), (sJ7_fill_53178_free_a 12 a5 (0 : Int32)), (13 : Int32))).2.2.2) ++ wX0 G bd b0 b1 b2 b3 b4 b5 b6 b7 b8 ++ wX2 G cd g0 g1 g2 g3 g4 g5) 7 (c_X7_placeFrom_at0 l G ad ((aX7_search_46 a0 a1 a2 b0 b2 b3 b4 b6 b8 g3 g5 5).2.1) ((aX7_search_46 a0 a1 a2 b0 b2 b3 b4 b6 b8 g3 g5 5).2.2.1) ((aX7_search_46 a0 a1 a2 b0 b2 b3 b4 b6 b8 g3 g5 5).2.2.2.1) (sJ7_fill_53178_free_a 5 a3 (-1 : Int32)) (sJ7_fill_53178_free_a 5 a4 (-1 : Int32)) (sJ7_fill_53178_free_a 12 a5 (0 : Int32)) p0 (if ((aX7_search_46 a0 a1 a2 b0 b2 b3 b4 b6 b8 g3 g5 5).2.2.2.2) < (((((aX7_search_46 a0 a1 a2 b0 b2 b3 b4 b6 b8 g3 g5 5).1) + p0) - (1 : Int32)) / p0) then (((((aX7_search_46 a0 a1 a2 b0 b2 b3 b4 b6 b8 g3 g5 5).1) + p0) - (1 : Int32)) / p0) else ((aX7_search_46 a0 a1 a2 b0 b2 b3 b4 b6 b8 g3 g5 5).2.2.2.2)) (13 : Int32) (0 : Int32) (0 : Int32) rfl) gX7_search_X7_placeFrom rfl (by decide +kernel) ⟨Nat.le_of_ble_eq_true rfl, Nat.le_of_ble_eq_true rfl⟩ [0, 1, 2, 3, 4, 5, 6] rfl rfl rfl rfl [ad 0, ad 1, ad 2, ad 3, ad 4, ad 5, ad 6, bd 0, bd 1, bd 2, bd 3, bd 4, bd 5, bd 6, cd 0, cd 1, cd 2, cd 3, cd 4, cd 5] rfl rfl rfl rfl (Nat.le_of_ble_eq_true rfl) (Nat.zero_le _) (Nat.zero_le _) dX7_search_165 ?_
          exact s_vret X (pc := 168) dX7_search_168 (by rw [show sX7_search_0 a0 a1 a2 b0 b2 b3 b4 b6 b8 g3 g5 = (aX7_search_46 a0 a1 a2 b0 b2 b3 b4 b6 b8 g3 g5 5).2.1 from rfl, show sX7_search_1 a0 a1 a2 b0 b2 b3 b4 b6 b8 g3 g5 = (aX7_search_46 a0 a1 a2 b0 b2 b3 b4 b6 b8 g3 g5 5).2.2.1 from rfl, show sX7_search_2 a0 a1 a2 b0 b2 b3 b4 b6 b8 g3 g5 = (aX7_search_46 a0 a1 a2 b0 b2 b3 b4 b6 b8 g3 g5 5).2.2.2.1 from rfl, show sX7_search_3 a0 a1 a2 a3 a4 a5 b0 b2 b3 b4 b6 b8 g3 g5 p0 = (pfX7 ((aX7_search_46 a0 a1 a2 b0 b2 b3 b4 b6 b8 g3 g5 5).2.1) ((aX7_search_46 a0 a1 a2 b0 b2 b3 b4 b6 b8 g3 g5 5).2.2.1) ((aX7_search_46 a0 a1 a2 b0 b2 b3 b4 b6 b8 g3 g5 5).2.2.2.1) p0 (if ((aX7_search_46 a0 a1 a2 b0 b2 b3 b4 b6 b8 g3 g5 5).2.2.2.2) < (((((aX7_search_46 a0 a1 a2 b0 b2 b3 b4 b6 b8 g3 g5 5).1) + p0) - (1 : Int32)) / p0) then (((((aX7_search_46 a0 a1 a2 b0 b2 b3 b4 b6 b8 g3 g5 5).1) + p0) - (1 : Int32)) / p0) else ((aX7_search_46 a0 a1 a2 b0 b2 b3 b4 b6 b8 g3 g5 5).2.2.2.2)) 5 (0 : Int32) (0 : Int32) ((sJ7_fill_53178_free_a 5 a3 (-1 : Int32)), (sJ7_fill_53178_free_a 5 a4 (-1 : Int32)), (sJ7_fill_53178_free_a 12 a5 (0 : Int32)), (13 : Int32))).1 from rfl, show sX7_search_4 a0 a1 a2 a3 a4 a5 b0 b2 b3 b4 b6 b8 g3 g5 p0 = (pfX7 ((aX7_search_46 a0 a1 a2 b0 b2 b3 b4 b6 b8 g3 g5 5).2.1) ((aX7_search_46 a0 a1 a2 b0 b2 b3 b4 b6 b8 g3 g5 5).2.2.1) ((aX7_search_46 a0 a1 a2 b0 b2 b3 b4 b6 b8 g3 g5 5).2.2.2.1) p0 (if ((aX7_search_46 a0 a1 a2 b0 b2 b3 b4 b6 b8 g3 g5 5).2.2.2.2) < (((((aX7_search_46 a0 a1 a2 b0 b2 b3 b4 b6 b8 g3 g5 5).1) + p0) - (1 : Int32)) / p0) then (((((aX7_search_46 a0 a1 a2 b0 b2 b3 b4 b6 b8 g3 g5 5).1) + p0) - (1 : Int32)) / p0) else ((aX7_search_46 a0 a1 a2 b0 b2 b3 b4 b6 b8 g3 g5 5).2.2.2.2)) 5 (0 : Int32) (0 : Int32) ((sJ7_fill_53178_free_a 5 a3 (-1 : Int32)), (sJ7_fill_53178_free_a 5 a4 (-1 : Int32)), (sJ7_fill_53178_free_a 12 a5 (0 : Int32)), (13 : Int32))).2.1 from rfl, show sX7_search_5 a0 a1 a2 a3 a4 a5 b0 b2 b3 b4 b6 b8 g3 g5 p0 = (pfX7 ((aX7_search_46 a0 a1 a2 b0 b2 b3 b4 b6 b8 g3 g5 5).2.1) ((aX7_search_46 a0 a1 a2 b0 b2 b3 b4 b6 b8 g3 g5 5).2.2.1) ((aX7_search_46 a0 a1 a2 b0 b2 b3 b4 b6 b8 g3 g5 5).2.2.2.1) p0 (if ((aX7_search_46 a0 a1 a2 b0 b2 b3 b4 b6 b8 g3 g5 5).2.2.2.2) < (((((aX7_search_46 a0 a1 a2 b0 b2 b3 b4 b6 b8 g3 g5 5).1) + p0) - (1 : Int32)) / p0) then (((((aX7_search_46 a0 a1 a2 b0 b2 b3 b4 b6 b8 g3 g5 5).1) + p0) - (1 : Int32)) / p0) else ((aX7_search_46 a0 a1 a2 b0 b2 b3 b4 b6 b8 g3 g5 5).2.2.2.2)) 5 (0 : Int32) (0 : Int32) ((sJ7_fill_53178_free_a 5 a3 (-1 : Int32)), (sJ7_fill_53178_free_a 5 a4 (-1 : Int32)), (sJ7_fill_53178_free_a 12 a5 (0 : Int32)), (13 : Int32))).2.2.1 from rfl, show sX7_search_6 p0 = p0 from rfl, show sX7_search_7 a0 a1 a2 b0 b2 b3 b4 b6 b8 g3 g5 p0 = if ((aX7_search_46 a0 a1 a2 b0 b2 b3 b4 b6 b8 g3 g5 5).2.2.2.2) < (((((aX7_search_46 a0 a1 a2 b0 b2 b3 b4 b6 b8 g3 g5 5).1) + p0) - (1 : Int32)) / p0) then (((((aX7_search_46 a0 a1 a2 b0 b2 b3 b4 b6 b8 g3 g5 5).1) + p0) - (1 : Int32)) / p0) else ((aX7_search_46 a0 a1 a2 b0 b2 b3 b4 b6 b8 g3 g5 5).2.2.2.2) from rfl, show sX7_search_8 a0 a1 a2 a3 a4 a5 b0 b2 b3 b4 b6 b8 g3 g5 p0 = (pfX7 ((aX7_search_46 a0 a1 a2 b0 b2 b3 b4 b6 b8 g3 g5 5).2.1) ((aX7_search_46 a0 a1 a2 b0 b2 b3 b4 b6 b8 g3 g5 5).2.2.1) ((aX7_search_46 a0 a1 a2 b0 b2 b3 b4 b6 b8 g3 g5 5).2.2.2.1) p0 (if ((aX7_search_46 a0 a1 a2 b0 b2 b3 b4 b6 b8 g3 g5 5).2.2.2.2) < (((((aX7_search_46 a0 a1 a2 b0 b2 b3 b4 b6 b8 g3 g5 5).1) + p0) - (1 : Int32)) / p0) then (((((aX7_search_46 a0 a1 a2 b0 b2 b3 b4 b6 b8 g3 g5 5).1) + p0) - (1 : Int32)) / p0) else ((aX7_search_46 a0 a1 a2 b0 b2 b3 b4 b6 b8 g3 g5 5).2.2.2.2)) 5 (0 : Int32) (0 : Int32) ((sJ7_fill_53178_free_a 5 a3 (-1 : Int32)), (sJ7_fill_53178_free_a 5 a4 (-1 : Int32)), (sJ7_fill_53178_free_a 12 a5 (0 : Int32)), (13 : Int32))).2.2.2 from rfl])
        ·
          exact absurd c140 (not_not_intro hm)
      ·
        exact absurd ((t_le eN46 tk46).mpr (by omega)) c49
    | succ n46 ih46 =>
      intro k46 hk46
      have hlt46 : k46 < 5 := by omega
      have tk46 : (nI k46).toInt = ((k46 : Nat) : Int) := nI_toInt (by omega)
      have eN46 : ((5 : Int32)).toInt = ((5 : Nat) : Int) := rfl
      refine s_iload X (pc := 46) (x := nI k46) 5 dX7_search_46 rfl ?_
      refine s_iconst X (pc := 48) (v := 5) dX7_search_48 (by decide) ?_
      refine s_icmp_ge X (pc := 49) (tgt := 134) dX7_search_49 (by decide) (fun c49 => ?_) (fun c49 => ?_)
      ·
        exact absurd ((t_le eN46 tk46).mp c49) (by omega)
      ·
        refine s_aload_n X (pc := 52) (x := (ad 0)) 0 dX7_search_52 rfl ?_
        refine s_get X (pc := 53) (v := .ref (ad 1)) iX7_search_X7 0 rfl rfl 0 (by decide) kX7_search_9 rfl rfl dX7_search_53 ?_
        refine s_iload X (pc := 56) (x := nI k46) 5 dX7_search_56 rfl ?_
        refine s_aload_n X (pc := 58) (x := (bd 0)) 1 dX7_search_58 rfl ?_
        refine s_iload X (pc := 59) (x := nI k46) 5 dX7_search_59 rfl ?_
        refine s_callVi X (pc := 61) (r := rX0_hasCase b8 (nI k46)) (w := wX7 G ad ((aX7_search_46 a0 a1 a2 b0 b2 b3 b4 b6 b8 g3 g5 k46).2.1) ((aX7_search_46 a0 a1 a2 b0 b2 b3 b4 b6 b8 g3 g5 k46).2.2.1) ((aX7_search_46 a0 a1 a2 b0 b2 b3 b4 b6 b8 g3 g5 k46).2.2.2.1) (sJ7_fill_53178_free_a 5 a3 (-1 : Int32)) (sJ7_fill_53178_free_a 5 a4 (-1 : Int32)) (sJ7_fill_53178_free_a 12 a5 (0 : Int32)) p0 ((aX7_search_46 a0 a1 a2 b0 b2 b3 b4 b6 b8 g3 g5 k46).2.2.2.2) (13 : Int32) ++ wX0 G bd b0 b1 b2 b3 b4 b5 b6 b7 b8 ++ wX2 G cd g0 g1 g2 g3 g4 g5) (n := 1) (st := [.int (nI k46), .ref (ad 1)]) (As := [.int (nI k46)]) (w2 := wX7 G ad ((aX7_search_46 a0 a1 a2 b0 b2 b3 b4 b6 b8 g3 g5 k46).2.1) ((aX7_search_46 a0 a1 a2 b0 b2 b3 b4 b6 b8 g3 g5 k46).2.2.1) ((aX7_search_46 a0 a1 a2 b0 b2 b3 b4 b6 b8 g3 g5 k46).2.2.2.1) (sJ7_fill_53178_free_a 5 a3 (-1 : Int32)) (sJ7_fill_53178_free_a 5 a4 (-1 : Int32)) (sJ7_fill_53178_free_a 12 a5 (0 : Int32)) p0 ((aX7_search_46 a0 a1 a2 b0 b2 b3 b4 b6 b8 g3 g5 k46).2.2.2.2) (13 : Int32) ++ wX0 G bd b0 b1 b2 b3 b4 b5 b6 b7 b8 ++ wX2 G cd g0 g1 g2 g3 g4 g5) 0 (c_X0_hasCase l G bd b0 b1 b2 b3 b4 b5 b6 b7 b8 (nI k46)) gX7_search_X0_hasCase rfl (by decide +kernel) ⟨Nat.le_of_ble_eq_true rfl, Nat.le_of_ble_eq_true rfl⟩ 0 rfl rfl [7, 8, 9, 10, 11, 12, 13] rfl rfl rfl rfl [ad 0, ad 1, ad 2, ad 3, ad 4, ad 5, ad 6, bd 0, bd 1, bd 2, bd 3, bd 4, bd 5, bd 6, cd 0, cd 1, cd 2, cd 3, cd 4, cd 5] rfl rfl rfl rfl (Nat.le_of_ble_eq_true rfl) (Nat.zero_le _) (Nat.zero_le _) dX7_search_61 ?_
        refine s_if_eq X (pc := 64) (tgt := 81) dX7_search_64 (by decide) (fun c64 => ?_) (fun c64 => ?_)
        ·
          refine s_iconst X (pc := 81) (v := 0) dX7_search_81 (by decide) ?_
          refine s_zast X (pc := 82) (n := 5) (f := (aX7_search_46 a0 a1 a2 b0 b2 b3 b4 b6 b8 g3 g5 k46).2.1) (w2 := wX7 G ad (upd ((aX7_search_46 a0 a1 a2 b0 b2 b3 b4 b6 b8 g3 g5 k46).2.1) (nI k46).toNatClampNeg (0 : Int32)) ((aX7_search_46 a0 a1 a2 b0 b2 b3 b4 b6 b8 g3 g5 k46).2.2.1) ((aX7_search_46 a0 a1 a2 b0 b2 b3 b4 b6 b8 g3 g5 k46).2.2.2.1) (sJ7_fill_53178_free_a 5 a3 (-1 : Int32)) (sJ7_fill_53178_free_a 5 a4 (-1 : Int32)) (sJ7_fill_53178_free_a 12 a5 (0 : Int32)) p0 ((aX7_search_46 a0 a1 a2 b0 b2 b3 b4 b6 b8 g3 g5 k46).2.2.2.2) (13 : Int32) ++ wX0 G bd b0 b1 b2 b3 b4 b5 b6 b7 b8 ++ wX2 G cd g0 g1 g2 g3 g4 g5) 1 rfl (vp_in_nI (by omega) (by decide)) (Or.inl rfl) rfl dX7_search_82 ?_
          refine s_aload_n X (pc := 83) (x := (ad 0)) 0 dX7_search_83 rfl ?_
          refine s_get X (pc := 84) (v := .ref (ad 1)) iX7_search_X7 0 rfl rfl 0 (by decide) kX7_search_9 rfl rfl dX7_search_84 ?_
          refine s_iload X (pc := 87) (x := nI k46) 5 dX7_search_87 rfl ?_
          refine s_zald X (pc := 89) (n := 5) (f := upd ((aX7_search_46 a0 a1 a2 b0 b2 b3 b4 b6 b8 g3 g5 k46).2.1) (nI k46).toNatClampNeg (0 : Int32)) 1 rfl (vp_in_nI (by omega) (by decide)) dX7_search_89 ?_
          refine s_topeq pk_us ?_
          refine s_if_eq X (pc := 90) (tgt := 128) dX7_search_90 (by decide) (fun c90 => ?_) (fun c90 => ?_)
          ·
            refine s_iinc X (pc := 128) (v := nI (k46 + 1)) (lv2 := [(5, .int (nI (k46 + 1))), (0, .ref (ad 0)), (1, .ref (bd 0)), (2, .ref (cd 0)), (3, .int p0), (4, .int ((aX7_search_46 a0 a1 a2 b0 b2 b3 b4 b6 b8 g3 g5 k46).1))]) 5 dX7_search_128 rfl (nI_1 _) (by decide) rfl ?_
            refine s_goto X (pc := 131) (tgt := 46) dX7_search_131 (by decide) ?_
            refine s_perm (lv2 := [(0, .ref (ad 0)), (1, .ref (bd 0)), (2, .ref (cd 0)), (3, .int p0), (4, .int ((aX7_search_46 a0 a1 a2 b0 b2 b3 b4 b6 b8 g3 g5 k46).1)), (5, .int (nI (k46 + 1)))]) [1, 2, 3, 4, 5, 0] rfl ?_
            have hb46 : (aX7_search_46 a0 a1 a2 b0 b2 b3 b4 b6 b8 g3 g5 (k46 + 1)) = ((aX7_search_46 a0 a1 a2 b0 b2 b3 b4 b6 b8 g3 g5 k46).1, upd ((aX7_search_46 a0 a1 a2 b0 b2 b3 b4 b6 b8 g3 g5 k46).2.1) (nI k46).toNatClampNeg (0 : Int32), (aX7_search_46 a0 a1 a2 b0 b2 b3 b4 b6 b8 g3 g5 k46).2.2.1, (aX7_search_46 a0 a1 a2 b0 b2 b3 b4 b6 b8 g3 g5 k46).2.2.2.1, (aX7_search_46 a0 a1 a2 b0 b2 b3 b4 b6 b8 g3 g5 k46).2.2.2.2) := by rw [aX7_search_46]; exact (if_pos c64)
            refine s_cast (lv2 := [(0, .ref (ad 0)), (1, .ref (bd 0)), (2, .ref (cd 0)), (3, .int p0), (4, .int ((aX7_search_46 a0 a1 a2 b0 b2 b3 b4 b6 b8 g3 g5 (k46 + 1)).1)), (5, .int (nI (k46 + 1)))]) (w2 := wX7 G ad ((aX7_search_46 a0 a1 a2 b0 b2 b3 b4 b6 b8 g3 g5 (k46 + 1)).2.1) ((aX7_search_46 a0 a1 a2 b0 b2 b3 b4 b6 b8 g3 g5 (k46 + 1)).2.2.1) ((aX7_search_46 a0 a1 a2 b0 b2 b3 b4 b6 b8 g3 g5 (k46 + 1)).2.2.2.1) (sJ7_fill_53178_free_a 5 a3 (-1 : Int32)) (sJ7_fill_53178_free_a 5 a4 (-1 : Int32)) (sJ7_fill_53178_free_a 12 a5 (0 : Int32)) p0 ((aX7_search_46 a0 a1 a2 b0 b2 b3 b4 b6 b8 g3 g5 (k46 + 1)).2.2.2.2) (13 : Int32) ++ wX0 G bd b0 b1 b2 b3 b4 b5 b6 b7 b8 ++ wX2 G cd g0 g1 g2 g3 g4 g5) (by first | (rw [hb46]; done) | rfl) (by first | (rw [hb46]; done) | rfl) ?_
            exact ih46 (k46 + 1) (by omega)
          ·
            exact absurd (by decide) c90
        ·
          refine s_aload_n X (pc := 67) (x := (cd 0)) 2 dX7_search_67 rfl ?_
          refine s_get X (pc := 68) (v := .ref (cd 4)) iX7_search_X2 14 rfl rfl 3 (by decide) kX7_search_53 rfl rfl dX7_search_68 ?_
          refine s_iload X (pc := 71) (x := nI k46) 5 dX7_search_71 rfl ?_
          refine s_iald X (pc := 73) (n := 5) (f := g3) 18 rfl (vp_in_nI (by omega) (by decide)) dX7_search_73 ?_
          refine s_if_ne X (pc := 74) (tgt := 81) dX7_search_74 (by decide) (fun c74 => ?_) (fun c74 => ?_)
          ·
            refine s_iconst X (pc := 81) (v := 0) dX7_search_81 (by decide) ?_
            refine s_zast X (pc := 82) (n := 5) (f := (aX7_search_46 a0 a1 a2 b0 b2 b3 b4 b6 b8 g3 g5 k46).2.1) (w2 := wX7 G ad (upd ((aX7_search_46 a0 a1 a2 b0 b2 b3 b4 b6 b8 g3 g5 k46).2.1) (nI k46).toNatClampNeg (0 : Int32)) ((aX7_search_46 a0 a1 a2 b0 b2 b3 b4 b6 b8 g3 g5 k46).2.2.1) ((aX7_search_46 a0 a1 a2 b0 b2 b3 b4 b6 b8 g3 g5 k46).2.2.2.1) (sJ7_fill_53178_free_a 5 a3 (-1 : Int32)) (sJ7_fill_53178_free_a 5 a4 (-1 : Int32)) (sJ7_fill_53178_free_a 12 a5 (0 : Int32)) p0 ((aX7_search_46 a0 a1 a2 b0 b2 b3 b4 b6 b8 g3 g5 k46).2.2.2.2) (13 : Int32) ++ wX0 G bd b0 b1 b2 b3 b4 b5 b6 b7 b8 ++ wX2 G cd g0 g1 g2 g3 g4 g5) 1 rfl (vp_in_nI (by omega) (by decide)) (Or.inl rfl) rfl dX7_search_82 ?_
            refine s_aload_n X (pc := 83) (x := (ad 0)) 0 dX7_search_83 rfl ?_
            refine s_get X (pc := 84) (v := .ref (ad 1)) iX7_search_X7 0 rfl rfl 0 (by decide) kX7_search_9 rfl rfl dX7_search_84 ?_
            refine s_iload X (pc := 87) (x := nI k46) 5 dX7_search_87 rfl ?_
            refine s_zald X (pc := 89) (n := 5) (f := upd ((aX7_search_46 a0 a1 a2 b0 b2 b3 b4 b6 b8 g3 g5 k46).2.1) (nI k46).toNatClampNeg (0 : Int32)) 1 rfl (vp_in_nI (by omega) (by decide)) dX7_search_89 ?_
            refine s_topeq pk_us ?_
            refine s_if_eq X (pc := 90) (tgt := 128) dX7_search_90 (by decide) (fun c90 => ?_) (fun c90 => ?_)
            ·
              refine s_iinc X (pc := 128) (v := nI (k46 + 1)) (lv2 := [(5, .int (nI (k46 + 1))), (0, .ref (ad 0)), (1, .ref (bd 0)), (2, .ref (cd 0)), (3, .int p0), (4, .int ((aX7_search_46 a0 a1 a2 b0 b2 b3 b4 b6 b8 g3 g5 k46).1))]) 5 dX7_search_128 rfl (nI_1 _) (by decide) rfl ?_
              refine s_goto X (pc := 131) (tgt := 46) dX7_search_131 (by decide) ?_
              refine s_perm (lv2 := [(0, .ref (ad 0)), (1, .ref (bd 0)), (2, .ref (cd 0)), (3, .int p0), (4, .int ((aX7_search_46 a0 a1 a2 b0 b2 b3 b4 b6 b8 g3 g5 k46).1)), (5, .int (nI (k46 + 1)))]) [1, 2, 3, 4, 5, 0] rfl ?_
              have hb46 : (aX7_search_46 a0 a1 a2 b0 b2 b3 b4 b6 b8 g3 g5 (k46 + 1)) = ((aX7_search_46 a0 a1 a2 b0 b2 b3 b4 b6 b8 g3 g5 k46).1, upd ((aX7_search_46 a0 a1 a2 b0 b2 b3 b4 b6 b8 g3 g5 k46).2.1) (nI k46).toNatClampNeg (0 : Int32), (aX7_search_46 a0 a1 a2 b0 b2 b3 b4 b6 b8 g3 g5 k46).2.2.1, (aX7_search_46 a0 a1 a2 b0 b2 b3 b4 b6 b8 g3 g5 k46).2.2.2.1, (aX7_search_46 a0 a1 a2 b0 b2 b3 b4 b6 b8 g3 g5 k46).2.2.2.2) := by rw [aX7_search_46]; exact ((if_neg c64).trans (if_neg c74))
              refine s_cast (lv2 := [(0, .ref (ad 0)), (1, .ref (bd 0)), (2, .ref (cd 0)), (3, .int p0), (4, .int ((aX7_search_46 a0 a1 a2 b0 b2 b3 b4 b6 b8 g3 g5 (k46 + 1)).1)), (5, .int (nI (k46 + 1)))]) (w2 := wX7 G ad ((aX7_search_46 a0 a1 a2 b0 b2 b3 b4 b6 b8 g3 g5 (k46 + 1)).2.1) ((aX7_search_46 a0 a1 a2 b0 b2 b3 b4 b6 b8 g3 g5 (k46 + 1)).2.2.1) ((aX7_search_46 a0 a1 a2 b0 b2 b3 b4 b6 b8 g3 g5 (k46 + 1)).2.2.2.1) (sJ7_fill_53178_free_a 5 a3 (-1 : Int32)) (sJ7_fill_53178_free_a 5 a4 (-1 : Int32)) (sJ7_fill_53178_free_a 12 a5 (0 : Int32)) p0 ((aX7_search_46 a0 a1 a2 b0 b2 b3 b4 b6 b8 g3 g5 (k46 + 1)).2.2.2.2) (13 : Int32) ++ wX0 G bd b0 b1 b2 b3 b4 b5 b6 b7 b8 ++ wX2 G cd g0 g1 g2 g3 g4 g5) (by first | (rw [hb46]; done) | rfl) (by first | (rw [hb46]; done) | rfl) ?_
              exact ih46 (k46 + 1) (by omega)
            ·
              exact absurd (by decide) c90
          ·
            refine s_iconst X (pc := 77) (v := 1) dX7_search_77 (by decide) ?_
            refine s_goto X (pc := 78) (tgt := 82) dX7_search_78 (by decide) ?_
            refine s_zast X (pc := 82) (n := 5) (f := (aX7_search_46 a0 a1 a2 b0 b2 b3 b4 b6 b8 g3 g5 k46).2.1) (w2 := wX7 G ad (upd ((aX7_search_46 a0 a1 a2 b0 b2 b3 b4 b6 b8 g3 g5 k46).2.1) (nI k46).toNatClampNeg (1 : Int32)) ((aX7_search_46 a0 a1 a2 b0 b2 b3 b4 b6 b8 g3 g5 k46).2.2.1) ((aX7_search_46 a0 a1 a2 b0 b2 b3 b4 b6 b8 g3 g5 k46).2.2.2.1) (sJ7_fill_53178_free_a 5 a3 (-1 : Int32)) (sJ7_fill_53178_free_a 5 a4 (-1 : Int32)) (sJ7_fill_53178_free_a 12 a5 (0 : Int32)) p0 ((aX7_search_46 a0 a1 a2 b0 b2 b3 b4 b6 b8 g3 g5 k46).2.2.2.2) (13 : Int32) ++ wX0 G bd b0 b1 b2 b3 b4 b5 b6 b7 b8 ++ wX2 G cd g0 g1 g2 g3 g4 g5) 1 rfl (vp_in_nI (by omega) (by decide)) (Or.inr rfl) rfl dX7_search_82 ?_
            refine s_aload_n X (pc := 83) (x := (ad 0)) 0 dX7_search_83 rfl ?_
            refine s_get X (pc := 84) (v := .ref (ad 1)) iX7_search_X7 0 rfl rfl 0 (by decide) kX7_search_9 rfl rfl dX7_search_84 ?_
            refine s_iload X (pc := 87) (x := nI k46) 5 dX7_search_87 rfl ?_
            refine s_zald X (pc := 89) (n := 5) (f := upd ((aX7_search_46 a0 a1 a2 b0 b2 b3 b4 b6 b8 g3 g5 k46).2.1) (nI k46).toNatClampNeg (1 : Int32)) 1 rfl (vp_in_nI (by omega) (by decide)) dX7_search_89 ?_
            refine s_topeq pk_us ?_
            refine s_if_eq X (pc := 90) (tgt := 128) dX7_search_90 (by decide) (fun c90 => ?_) (fun c90 => ?_)
            ·
              exact absurd c90 (by decide)
            ·
              refine s_aload_n X (pc := 93) (x := (ad 0)) 0 dX7_search_93 rfl ?_
              refine s_iload X (pc := 94) (x := nI k46) 5 dX7_search_94 rfl ?_
              refine s_aload_n X (pc := 96) (x := (bd 0)) 1 dX7_search_96 rfl ?_
              refine s_get X (pc := 97) (v := .ref (bd 4)) iX7_search_X0 7 rfl rfl 3 (by decide) kX7_search_58 rfl rfl dX7_search_97 ?_
              refine s_iload X (pc := 100) (x := nI k46) 5 dX7_search_100 rfl ?_
              refine s_iald X (pc := 102) (n := 5) (f := b3) 11 rfl (vp_in_nI (by omega) (by decide)) dX7_search_102 ?_
              refine s_aload_n X (pc := 103) (x := (bd 0)) 1 dX7_search_103 rfl ?_
              refine s_iload X (pc := 104) (x := nI k46) 5 dX7_search_104 rfl ?_
              refine s_aload_n X (pc := 106) (x := (cd 0)) 2 dX7_search_106 rfl ?_
              refine s_get X (pc := 107) (v := .int g5) iX7_search_X2 14 rfl rfl 5 (by decide) kX7_search_59 rfl rfl dX7_search_107 ?_
              refine s_callVi X (pc := 110) (r := rX0_hoursOpen b0 b2 b4 b6 (nI k46) g5) (w := wX7 G ad (upd ((aX7_search_46 a0 a1 a2 b0 b2 b3 b4 b6 b8 g3 g5 k46).2.1) (nI k46).toNatClampNeg (1 : Int32)) ((aX7_search_46 a0 a1 a2 b0 b2 b3 b4 b6 b8 g3 g5 k46).2.2.1) ((aX7_search_46 a0 a1 a2 b0 b2 b3 b4 b6 b8 g3 g5 k46).2.2.2.1) (sJ7_fill_53178_free_a 5 a3 (-1 : Int32)) (sJ7_fill_53178_free_a 5 a4 (-1 : Int32)) (sJ7_fill_53178_free_a 12 a5 (0 : Int32)) p0 ((aX7_search_46 a0 a1 a2 b0 b2 b3 b4 b6 b8 g3 g5 k46).2.2.2.2) (13 : Int32) ++ wX0 G bd b0 b1 b2 b3 b4 b5 b6 b7 b8 ++ wX2 G cd g0 g1 g2 g3 g4 g5) (n := 2) (st := [.int (b3 (nI k46).toNatClampNeg), .int (nI k46), .ref (ad 0)]) (As := [.int (nI k46), .int g5]) (w2 := wX7 G ad (upd ((aX7_search_46 a0 a1 a2 b0 b2 b3 b4 b6 b8 g3 g5 k46).2.1) (nI k46).toNatClampNeg (1 : Int32)) ((aX7_search_46 a0 a1 a2 b0 b2 b3 b4 b6 b8 g3 g5 k46).2.2.1) ((aX7_search_46 a0 a1 a2 b0 b2 b3 b4 b6 b8 g3 g5 k46).2.2.2.1) (sJ7_fill_53178_free_a 5 a3 (-1 : Int32)) (sJ7_fill_53178_free_a 5 a4 (-1 : Int32)) (sJ7_fill_53178_free_a 12 a5 (0 : Int32)) p0 ((aX7_search_46 a0 a1 a2 b0 b2 b3 b4 b6 b8 g3 g5 k46).2.2.2.2) (13 : Int32) ++ wX0 G bd b0 b1 b2 b3 b4 b5 b6 b7 b8 ++ wX2 G cd g0 g1 g2 g3 g4 g5) 2 (c_X0_hoursOpen l G bd b0 b1 b2 b3 b4 b5 b6 b7 b8 (nI k46) g5 hT (vp_in_nI (by omega) (by decide))) gX7_search_X0_hoursOpen rfl (by decide +kernel) ⟨Nat.le_of_ble_eq_true rfl, Nat.le_of_ble_eq_true rfl⟩ 0 rfl rfl [7, 8, 9, 10, 11, 12, 13] rfl rfl rfl rfl [ad 0, ad 1, ad 2, ad 3, ad 4, ad 5, ad 6, bd 0, bd 1, bd 2, bd 3, bd 4, bd 5, bd 6, cd 0, cd 1, cd 2, cd 3, cd 4, cd 5] rfl rfl rfl rfl (Nat.le_of_ble_eq_true rfl) (Nat.zero_le _) (Nat.zero_le _) dX7_search_110 ?_
              refine s_callVv X (pc := 113) (w := wX7 G ad (upd ((aX7_search_46 a0 a1 a2 b0 b2 b3 b4 b6 b8 g3 g5 k46).2.1) (nI k46).toNatClampNeg (1 : Int32)) ((aX7_search_46 a0 a1 a2 b0 b2 b3 b4 b6 b8 g3 g5 k46).2.2.1) ((aX7_search_46 a0 a1 a2 b0 b2 b3 b4 b6 b8 g3 g5 k46).2.2.2.1) (sJ7_fill_53178_free_a 5 a3 (-1 : Int32)) (sJ7_fill_53178_free_a 5 a4 (-1 : Int32)) (sJ7_fill_53178_free_a 12 a5 (0 : Int32)) p0 ((aX7_search_46 a0 a1 a2 b0 b2 b3 b4 b6 b8 g3 g5 k46).2.2.2.2) (13 : Int32) ++ wX0 G bd b0 b1 b2 b3 b4 b5 b6 b7 b8 ++ wX2 G cd g0 g1 g2 g3 g4 g5) (n := 3) (st := []) (As := [.int (nI k46), .int (b3 (nI k46).toNatClampNeg), .int (rX0_hoursOpen b0 b2 b4 b6 (nI k46) g5)]) (w2 := wX7 G ad (upd ((aX7_search_46 a0 a1 a2 b0 b2 b3 b4 b6 b8 g3 g5 k46).2.1) (nI k46).toNatClampNeg (1 : Int32)) (sX7_lookAtAlone_1 ((aX7_search_46 a0 a1 a2 b0 b2 b3 b4 b6 b8 g3 g5 k46).2.2.1) (nI k46) (b3 (nI k46).toNatClampNeg) (rX0_hoursOpen b0 b2 b4 b6 (nI k46) g5)) (sX7_lookAtAlone_2 ((aX7_search_46 a0 a1 a2 b0 b2 b3 b4 b6 b8 g3 g5 k46).2.2.2.1) (nI k46) (b3 (nI k46).toNatClampNeg) (rX0_hoursOpen b0 b2 b4 b6 (nI k46) g5)) (sJ7_fill_53178_free_a 5 a3 (-1 : Int32)) (sJ7_fill_53178_free_a 5 a4 (-1 : Int32)) (sJ7_fill_53178_free_a 12 a5 (0 : Int32)) p0 (sX7_lookAtAlone_7 ((aX7_search_46 a0 a1 a2 b0 b2 b3 b4 b6 b8 g3 g5 k46).2.2.2.2) (b3 (nI k46).toNatClampNeg) (rX0_hoursOpen b0 b2 b4 b6 (nI k46) g5)) (13 : Int32) ++ wX0 G bd b0 b1 b2 b3 b4 b5 b6 b7 b8 ++ wX2 G cd g0 g1 g2 g3 g4 g5) 1 (c_X7_lookAtAlone l G ad (upd ((aX7_search_46 a0 a1 a2 b0 b2 b3 b4 b6 b8 g3 g5 k46).2.1) (nI k46).toNatClampNeg (1 : Int32)) ((aX7_search_46 a0 a1 a2 b0 b2 b3 b4 b6 b8 g3 g5 k46).2.2.1) ((aX7_search_46 a0 a1 a2 b0 b2 b3 b4 b6 b8 g3 g5 k46).2.2.2.1) (sJ7_fill_53178_free_a 5 a3 (-1 : Int32)) (sJ7_fill_53178_free_a 5 a4 (-1 : Int32)) (sJ7_fill_53178_free_a 12 a5 (0 : Int32)) p0 ((aX7_search_46 a0 a1 a2 b0 b2 b3 b4 b6 b8 g3 g5 k46).2.2.2.2) (13 : Int32) (nI k46) (b3 (nI k46).toNatClampNeg) (rX0_hoursOpen b0 b2 b4 b6 (nI k46) g5) (vp_in_nI (by omega) (by decide)) (by rw [nI_clamp (by omega)]; exact (hL _ (by omega) c64).1) (by rw [nI_clamp (by omega)]; exact (hL _ (by omega) c64).2)) gX7_search_X7_lookAtAlone rfl (by decide +kernel) ⟨Nat.le_of_ble_eq_true rfl, Nat.le_of_ble_eq_true rfl⟩ 0 rfl rfl [0, 1, 2, 3, 4, 5, 6] rfl rfl rfl rfl [ad 0, ad 1, ad 2, ad 3, ad 4, ad 5, ad 6, bd 0, bd 1, bd 2, bd 3, bd 4, bd 5, bd 6, cd 0, cd 1, cd 2, cd 3, cd 4, cd 5] rfl rfl rfl rfl (Nat.le_of_ble_eq_true rfl) (Nat.zero_le _) (Nat.zero_le _) dX7_search_113 ?_
              refine s_iload X (pc := 116) (x := (aX7_search_46 a0 a1 a2 b0 b2 b3 b4 b6 b8 g3 g5 k46).1) 4 dX7_search_116 rfl ?_
              refine s_aload_n X (pc := 118) (x := (bd 0)) 1 dX7_search_118 rfl ?_
              refine s_get X (pc := 119) (v := .ref (bd 4)) iX7_search_X0 7 rfl rfl 3 (by decide) kX7_search_58 rfl rfl dX7_search_119 ?_
              refine s_iload X (pc := 122) (x := nI k46) 5 dX7_search_122 rfl ?_
              refine s_iald X (pc := 124) (n := 5) (f := b3) 11 rfl (vp_in_nI (by omega) (by decide)) dX7_search_124 ?_
              refine s_iadd X (pc := 125) dX7_search_125 ?_
              refine s_istore X (pc := 126) (i := 4) (lv2 := [(4, .int (((aX7_search_46 a0 a1 a2 b0 b2 b3 b4 b6 b8 g3 g5 k46).1) + (b3 (nI k46).toNatClampNeg))), (0, .ref (ad 0)), (1, .ref (bd 0)), (2, .ref (cd 0)), (3, .int p0), (5, .int (nI k46))]) dX7_search_126 (by decide) rfl ?_
              refine s_iinc X (pc := 128) (v := nI (k46 + 1)) (lv2 := [(5, .int (nI (k46 + 1))), (4, .int (((aX7_search_46 a0 a1 a2 b0 b2 b3 b4 b6 b8 g3 g5 k46).1) + (b3 (nI k46).toNatClampNeg))), (0, .ref (ad 0)), (1, .ref (bd 0)), (2, .ref (cd 0)), (3, .int p0)]) 5 dX7_search_128 rfl (nI_1 _) (by decide) rfl ?_
              refine s_goto X (pc := 131) (tgt := 46) dX7_search_131 (by decide) ?_
              refine s_perm (lv2 := [(0, .ref (ad 0)), (1, .ref (bd 0)), (2, .ref (cd 0)), (3, .int p0), (4, .int (((aX7_search_46 a0 a1 a2 b0 b2 b3 b4 b6 b8 g3 g5 k46).1) + (b3 (nI k46).toNatClampNeg))), (5, .int (nI (k46 + 1)))]) [2, 3, 4, 5, 1, 0] rfl ?_
              have hb46 : (aX7_search_46 a0 a1 a2 b0 b2 b3 b4 b6 b8 g3 g5 (k46 + 1)) = (((aX7_search_46 a0 a1 a2 b0 b2 b3 b4 b6 b8 g3 g5 k46).1) + (b3 (nI k46).toNatClampNeg), upd ((aX7_search_46 a0 a1 a2 b0 b2 b3 b4 b6 b8 g3 g5 k46).2.1) (nI k46).toNatClampNeg (1 : Int32), sX7_lookAtAlone_1 ((aX7_search_46 a0 a1 a2 b0 b2 b3 b4 b6 b8 g3 g5 k46).2.2.1) (nI k46) (b3 (nI k46).toNatClampNeg) (rX0_hoursOpen b0 b2 b4 b6 (nI k46) g5), sX7_lookAtAlone_2 ((aX7_search_46 a0 a1 a2 b0 b2 b3 b4 b6 b8 g3 g5 k46).2.2.2.1) (nI k46) (b3 (nI k46).toNatClampNeg) (rX0_hoursOpen b0 b2 b4 b6 (nI k46) g5), sX7_lookAtAlone_7 ((aX7_search_46 a0 a1 a2 b0 b2 b3 b4 b6 b8 g3 g5 k46).2.2.2.2) (b3 (nI k46).toNatClampNeg) (rX0_hoursOpen b0 b2 b4 b6 (nI k46) g5)) := by rw [aX7_search_46]; exact ((if_neg c64).trans (if_pos c74))
              refine s_cast (lv2 := [(0, .ref (ad 0)), (1, .ref (bd 0)), (2, .ref (cd 0)), (3, .int p0), (4, .int ((aX7_search_46 a0 a1 a2 b0 b2 b3 b4 b6 b8 g3 g5 (k46 + 1)).1)), (5, .int (nI (k46 + 1)))]) (w2 := wX7 G ad ((aX7_search_46 a0 a1 a2 b0 b2 b3 b4 b6 b8 g3 g5 (k46 + 1)).2.1) ((aX7_search_46 a0 a1 a2 b0 b2 b3 b4 b6 b8 g3 g5 (k46 + 1)).2.2.1) ((aX7_search_46 a0 a1 a2 b0 b2 b3 b4 b6 b8 g3 g5 (k46 + 1)).2.2.2.1) (sJ7_fill_53178_free_a 5 a3 (-1 : Int32)) (sJ7_fill_53178_free_a 5 a4 (-1 : Int32)) (sJ7_fill_53178_free_a 12 a5 (0 : Int32)) p0 ((aX7_search_46 a0 a1 a2 b0 b2 b3 b4 b6 b8 g3 g5 (k46 + 1)).2.2.2.2) (13 : Int32) ++ wX0 G bd b0 b1 b2 b3 b4 b5 b6 b7 b8 ++ wX2 G cd g0 g1 g2 g3 g4 g5) (by first | (rw [hb46]; done) | rfl) (by first | (rw [hb46]; done) | rfl) ?_
              exact ih46 (k46 + 1) (by omega)
  exact L46 5 0 (Nat.zero_add _)
