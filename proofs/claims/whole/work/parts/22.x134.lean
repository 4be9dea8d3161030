theorem iX1_add_X1 : ∀ z ∈ wsX10, z ∈ wsX1_add := fun z h => List.mem_cons_of_mem _ (List.mem_append_right _ h)
theorem kX1_add_18 : Cond.fieldLink RX1 18 "BathingCourt$Book" (TX1 2).2.1 (TX1 2).2.2.1 ∈ wsX1_add := List.mem_of_getElem? (i := 1) rfl
theorem kX1_add_9 : Cond.fieldLink RX1 9 "BathingCourt$Book" (TX1 0).2.1 (TX1 0).2.2.1 ∈ wsX1_add := List.mem_of_getElem? (i := 2) rfl
theorem kX1_add_15 : Cond.fieldLink RX1 15 "BathingCourt$Book" (TX1 1).2.1 (TX1 1).2.2.1 ∈ wsX1_add := List.mem_of_getElem? (i := 3) rfl
def rX1_add (a2 : Int32) : Int32 := if (15 : Int32) ≤ a2 then a2 else (a2 + (1 : Int32))
def sX1_add_0 (a0 : Nat → Int32) (a2 p0 : Int32) : Nat → Int32 := if (15 : Int32) ≤ a2 then a0 else (upd a0 a2.toNatClampNeg p0)
def sX1_add_1 (a1 : Nat → Int32) (a2 p1 : Int32) : Nat → Int32 := if (15 : Int32) ≤ a2 then a1 else (upd a1 a2.toNatClampNeg p1)
def sX1_add_2 (a2 : Int32) : Int32 := if (15 : Int32) ≤ a2 then a2 else (a2 + (1 : Int32))
set_option maxRecDepth 100000 in
set_option maxHeartbeats 4000000 in
theorem c_X1_add (l : Launch) (G : GT) (ad : Nat → Nat) (a0 a1 : Nat → Int32) (a2 p0 p1 : Int32) (h0 : 0 ≤ a2) : Ci l G yX1_add wsX1_add (rmL 0) [.ref (ad 0), .int p0, .int p1] (wX1 G ad a0 a1 a2) (rX1_add a2) (wX1 G ad (sX1_add_0 a0 a2 p0) (sX1_add_1 a1 a2 p1) (sX1_add_2 a2)) := by
  refine ci_start .int (by decide) rfl rfl (Nat.le_of_ble_eq_true rfl) ?_
  intro p e s m args below meth c A X
  refine s_perm (lv2 := [(0, .ref (ad 0)), (1, .int p0), (2, .int p1)]) [0, 1, 2] rfl ?_
  refine s_aload_n X (pc := 0) (x := (ad 0)) 0 dX1_add_0 rfl ?_
  refine s_get X (pc := 1) (v := .int a2) iX1_add_X1 0 rfl rfl 2 (by decide) kX1_add_18 rfl rfl dX1_add_1 ?_
  refine s_bipush X (pc := 4) (v := 15) dX1_add_4 (by decide) ?_
  refine s_icmp_ge X (pc := 6) (tgt := 39) dX1_add_6 (by decide) (fun c6 => ?_) (fun c6 => ?_)
  ·
    refine s_aload_n X (pc := 39) (x := (ad 0)) 0 dX1_add_39 rfl ?_
    refine s_get X (pc := 40) (v := .int a2) iX1_add_X1 0 rfl rfl 2 (by decide) kX1_add_18 rfl rfl dX1_add_40 ?_
    exact s_iret X (pc := 43) (v := a2) dX1_add_43 (Eq.symm (show rX1_add a2 = a2 from (by unfold rX1_add; exact (if_pos c6)))) (by rw [show sX1_add_0 a0 a2 p0 = a0 from (by unfold sX1_add_0; exact (if_pos c6)), show sX1_add_1 a1 a2 p1 = a1 from (by unfold sX1_add_1; exact (if_pos c6)), show sX1_add_2 a2 = a2 from (by unfold sX1_add_2; exact (if_pos c6))])
  ·
    refine s_aload_n X (pc := 9) (x := (ad 0)) 0 dX1_add_9 rfl ?_
    refine s_get X (pc := 10) (v := .ref (ad 1)) iX1_add_X1 0 rfl rfl 0 (by decide) kX1_add_9 rfl rfl dX1_add_10 ?_
    refine s_aload_n X (pc := 13) (x := (ad 0)) 0 dX1_add_13 rfl ?_
    refine s_get X (pc := 14) (v := .int a2) iX1_add_X1 0 rfl rfl 2 (by decide) kX1_add_18 rfl rfl dX1_add_14 ?_
    refine s_iload_n X (pc := 17) (x := p0) 1 dX1_add_17 rfl ?_
    refine s_iast X (pc := 18) (n := 15) (f := a0) (w2 := wX1 G ad (upd a0 a2.toNatClampNeg p0) a1 a2) 1 rfl (by first | with_reducible assumption | exact vin (b := 15) rfl (by grind) (by grind)) rfl dX1_add_18 ?_
    refine s_aload_n X (pc := 19) (x := (ad 0)) 0 dX1_add_19 rfl ?_
    refine s_get X (pc := 20) (v := .ref (ad 2)) iX1_add_X1 0 rfl rfl 1 (by decide) kX1_add_15 rfl rfl dX1_add_20 ?_
    refine s_aload_n X (pc := 23) (x := (ad 0)) 0 dX1_add_23 rfl ?_
    refine s_get X (pc := 24) (v := .int a2) iX1_add_X1 0 rfl rfl 2 (by decide) kX1_add_18 rfl rfl dX1_add_24 ?_
    refine s_iload_n X (pc := 27) (x := p1) 2 dX1_add_27 rfl ?_
    refine s_iast X (pc := 28) (n := 15) (f := a1) (w2 := wX1 G ad (upd a0 a2.toNatClampNeg p0) (upd a1 a2.toNatClampNeg p1) a2) 2 rfl (by first | with_reducible assumption | exact vin (b := 15) rfl (by grind) (by grind)) rfl dX1_add_28 ?_
    refine s_aload_n X (pc := 29) (x := (ad 0)) 0 dX1_add_29 rfl ?_
    refine s_dup X (pc := 30) dX1_add_30 rfl ?_
    refine s_get X (pc := 31) (v := .int a2) iX1_add_X1 0 rfl rfl 2 (by decide) kX1_add_18 rfl rfl dX1_add_31 ?_
    refine s_iconst X (pc := 34) (v := 1) dX1_add_34 (by decide) ?_
    refine s_iadd X (pc := 35) dX1_add_35 ?_
    refine s_put X (pc := 36) (v := .int (a2 + (1 : Int32))) (w2 := wX1 G ad (upd a0 a2.toNatClampNeg p0) (upd a1 a2.toNatClampNeg p1) (a2 + (1 : Int32))) iX1_add_X1 0 rfl rfl 2 (by decide) kX1_add_18 rfl tyX1 tyX1_ok nmX1 rfl (ty := .int) (by decide +kernel) rfl rfl (Nat.le_of_ble_eq_true rfl) rfl dX1_add_36 ?_
    refine s_aload_n X (pc := 39) (x := (ad 0)) 0 dX1_add_39 rfl ?_
    refine s_get X (pc := 40) (v := .int (a2 + (1 : Int32))) iX1_add_X1 0 rfl rfl 2 (by decide) kX1_add_18 rfl rfl dX1_add_40 ?_
    exact s_iret X (pc := 43) (v := a2 + (1 : Int32)) dX1_add_43 (Eq.symm (show rX1_add a2 = a2 + (1 : Int32) from (by unfold rX1_add; exact (if_neg c6)))) (by rw [show sX1_add_0 a0 a2 p0 = upd a0 a2.toNatClampNeg p0 from (by unfold sX1_add_0; exact (if_neg c6)), show sX1_add_1 a1 a2 p1 = upd a1 a2.toNatClampNeg p1 from (by unfold sX1_add_1; exact (if_neg c6)), show sX1_add_2 a2 = a2 + (1 : Int32) from (by unfold sX1_add_2; exact (if_neg c6))])

theorem iX1_forget_X1 : ∀ z ∈ wsX10, z ∈ wsX1_forget := fun z h => List.mem_cons_of_mem _ (List.mem_append_right _ h)
theorem kX1_forget_18 : Cond.fieldLink RX1 18 "BathingCourt$Book" (TX1 2).2.1 (TX1 2).2.2.1 ∈ wsX1_forget := List.mem_of_getElem? (i := 1) rfl
def sX1_forget_2 : Int32 := (0 : Int32)
set_option maxRecDepth 100000 in
set_option maxHeartbeats 4000000 in
theorem c_X1_forget (l : Launch) (G : GT) (ad : Nat → Nat) (a0 a1 : Nat → Int32) (a2 : Int32) : Cv l G yX1_forget wsX1_forget (rmL 0) [.ref (ad 0)] (wX1 G ad a0 a1 a2) (wX1 G ad a0 a1 sX1_forget_2) := by
  refine cv_start (by decide) rfl rfl (Nat.le_of_ble_eq_true rfl) ?_
  intro p e s m args below meth c A X
  refine s_perm (lv2 := [(0, .ref (ad 0))]) [0] rfl ?_
  refine s_aload_n X (pc := 0) (x := (ad 0)) 0 dX1_forget_0 rfl ?_
  refine s_iconst X (pc := 1) (v := 0) dX1_forget_1 (by decide) ?_
  refine s_put X (pc := 2) (v := .int (0 : Int32)) (w2 := wX1 G ad a0 a1 (0 : Int32)) iX1_forget_X1 0 rfl rfl 2 (by decide) kX1_forget_18 rfl tyX1 tyX1_ok nmX1 rfl (ty := .int) (by decide +kernel) rfl rfl (Nat.le_of_ble_eq_true rfl) rfl dX1_forget_2 ?_
  exact s_vret X (pc := 5) dX1_forget_5 (by rw [show sX1_forget_2 = (0 : Int32) from rfl])

theorem iX1_firstWrong_X1 : ∀ z ∈ wsX10, z ∈ wsX1_firstWrong := fun z h => List.mem_cons_of_mem _ (List.mem_append_left _ (List.mem_append_right _ h))
theorem iX1_firstWrong_X2 : ∀ z ∈ wsX20, z ∈ wsX1_firstWrong := fun z h => List.mem_cons_of_mem _ (List.mem_append_right _ h)
theorem kX1_firstWrong_18 : Cond.fieldLink RX1 18 "BathingCourt$Book" (TX1 2).2.1 (TX1 2).2.2.1 ∈ wsX1_firstWrong := List.mem_of_getElem? (i := 1) rfl
theorem kX1_firstWrong_22 : Cond.fieldLink RX1 22 "BathingCourt$Day" (TX2 3).2.1 (TX2 3).2.2.1 ∈ wsX1_firstWrong := List.mem_of_getElem? (i := 2) rfl
theorem kX1_firstWrong_9 : Cond.fieldLink RX1 9 "BathingCourt$Book" (TX1 0).2.1 (TX1 0).2.2.1 ∈ wsX1_firstWrong := List.mem_of_getElem? (i := 3) rfl
theorem kX1_firstWrong_15 : Cond.fieldLink RX1 15 "BathingCourt$Book" (TX1 1).2.1 (TX1 1).2.2.1 ∈ wsX1_firstWrong := List.mem_of_getElem? (i := 4) rfl
def aX1_firstWrong_2 (a0 a1 b3 : Nat → Int32) : Nat → Nat → Int32
  | 0, k2 => (-1 : Int32)
  | n2 + 1, k2 => if (b3 (a0 (nI k2).toNatClampNeg).toNatClampNeg) = (a1 (nI k2).toNatClampNeg) then (aX1_firstWrong_2 a0 a1 b3 n2 (k2 + 1)) else (nI k2)
def rX1_firstWrong (a0 a1 : Nat → Int32) (a2 : Int32) (b3 : Nat → Int32) : Int32 := aX1_firstWrong_2 a0 a1 b3 a2.toNatClampNeg 0 
set_option maxRecDepth 100000 in
set_option maxHeartbeats 4000000 in
theorem c_X1_firstWrong (l : Launch) (G : GT) (ad : Nat → Nat) (bd : Nat → Nat) (a0 a1 : Nat → Int32) (a2 : Int32) (b0 b1 b2 b3 b4 : Nat → Int32) (b5 : Int32) (h0 : 0 ≤ a2) (h1 : a2 ≤ 15) (hE : ∀ j : Nat, j < a2.toNatClampNeg → vp_in (a0 j) 5) : Ci l G yX1_firstWrong wsX1_firstWrong (rmL 0) [.ref (ad 0), .ref (bd 0)] (wX1 G ad a0 a1 a2 ++ wX2 G bd b0 b1 b2 b3 b4 b5) (rX1_firstWrong a0 a1 a2 b3) (wX1 G ad a0 a1 a2 ++ wX2 G bd b0 b1 b2 b3 b4 b5) := by
  refine ci_start .int (by decide) rfl rfl (Nat.le_of_ble_eq_true rfl) ?_
  intro p e s m args below meth c A X
  have e2 := clampInt h0
  have hN := clampLe (n := 15) (b := 15) rfl h0 h1
  refine s_perm (lv2 := [(0, .ref (ad 0)), (1, .ref (bd 0))]) [0, 1] rfl ?_
  refine s_iconst X (pc := 0) (v := 0) dX1_firstWrong_0 (by decide) ?_
  refine s_istore_n X (pc := 1) (i := 2) (lv2 := [(2, .int (0 : Int32)), (0, .ref (ad 0)), (1, .ref (bd 0))]) dX1_firstWrong_1 rfl (by decide) rfl ?_
  refine s_perm (lv2 := [(0, .ref (ad 0)), (1, .ref (bd 0)), (2, .int (0 : Int32))]) [1, 2, 0] rfl ?_
  have L2 : ∀ (n2 k2 : Nat), k2 + n2 = a2.toNatClampNeg → rX1_firstWrong a0 a1 a2 b3 = aX1_firstWrong_2 a0 a1 b3 n2 k2  → Sm p l e (rmL 0) s m args below meth c G A 3 0 0 (Qci below G A args s (rX1_firstWrong a0 a1 a2 b3) (wX1 G ad a0 a1 a2 ++ wX2 G bd b0 b1 b2 b3 b4 b5)) 2 [(0, .ref (ad 0)), (1, .ref (bd 0)), (2, .int (nI k2))] [] (wX1 G ad a0 a1 a2 ++ wX2 G bd b0 b1 b2 b3 b4 b5) := by
    intro n2
    induction n2 with
    | zero =>
      intro k2  hk2 hv2
      have hK2 : k2 = a2.toNatClampNeg := by omega
      have tk2 : (nI k2).toInt = ((k2 : Nat) : Int) := nI_toInt (by omega)
      have eN2 : (a2).toInt = ((a2.toNatClampNeg : Nat) : Int) := e2
      refine s_iload_n X (pc := 2) (x := nI k2) 2 dX1_firstWrong_2 rfl ?_
      refine s_aload_n X (pc := 3) (x := (ad 0)) 0 dX1_firstWrong_3 rfl ?_
      refine s_get X (pc := 4) (v := .int a2) iX1_firstWrong_X1 0 rfl rfl 2 (by decide) kX1_firstWrong_18 rfl rfl dX1_firstWrong_4 ?_
      refine s_icmp_ge X (pc := 7) (tgt := 44) dX1_firstWrong_7 (by decide) (fun c7 => ?_) (fun c7 => ?_)
      ·
        refine s_iconst X (pc := 44) (v := -1) dX1_firstWrong_44 (by decide) ?_
        exact s_iret X (pc := 45) (v := (-1 : Int32)) dX1_firstWrong_45 (Eq.symm (show rX1_firstWrong a0 a1 a2 b3 = (-1 : Int32) from (hv2.trans (show aX1_firstWrong_2 a0 a1 b3 0 k2  = (-1 : Int32) from by rw [aX1_firstWrong_2])))) rfl
      ·
        exact absurd ((t_le eN2 tk2).mpr (by omega)) c7
    | succ n2 ih2 =>
      intro k2  hk2 hv2
      have hlt2 : k2 < a2.toNatClampNeg := by omega
      have tk2 : (nI k2).toInt = ((k2 : Nat) : Int) := nI_toInt (by omega)
      have eN2 : (a2).toInt = ((a2.toNatClampNeg : Nat) : Int) := e2
      refine s_iload_n X (pc := 2) (x := nI k2) 2 dX1_firstWrong_2 rfl ?_
      refine s_aload_n X (pc := 3) (x := (ad 0)) 0 dX1_firstWrong_3 rfl ?_
      refine s_get X (pc := 4) (v := .int a2) iX1_firstWrong_X1 0 rfl rfl 2 (by decide) kX1_firstWrong_18 rfl rfl dX1_firstWrong_4 ?_
      refine s_icmp_ge X (pc := 7) (tgt := 44) dX1_firstWrong_7 (by decide) (fun c7 => ?_) (fun c7 => ?_)
      ·
        exact absurd ((t_le eN2 tk2).mp c7) (by omega)
      ·
        refine s_iload_n X (pc := 10) (x := nI k2) 2 dX1_firstWrong_10 rfl ?_
        refine s_bipush X (pc := 11) (v := 15) dX1_firstWrong_11 (by decide) ?_
        refine s_icmp_ge X (pc := 13) (tgt := 44) dX1_firstWrong_13 (by decide) (fun c13 => ?_) (fun c13 => ?_)
        ·
          exact absurd ((t_le (x := 15) rfl tk2).mp c13) (by omega)
        ·
          refine s_aload_n X (pc := 16) (x := (bd 0)) 1 dX1_firstWrong_16 rfl ?_
          refine s_get X (pc := 17) (v := .ref (bd 4)) iX1_firstWrong_X2 3 rfl rfl 3 (by decide) kX1_firstWrong_22 rfl rfl dX1_firstWrong_17 ?_
          refine s_aload_n X (pc := 20) (x := (ad 0)) 0 dX1_firstWrong_20 rfl ?_
          refine s_get X (pc := 21) (v := .ref (ad 1)) iX1_firstWrong_X1 0 rfl rfl 0 (by decide) kX1_firstWrong_9 rfl rfl dX1_firstWrong_21 ?_
          refine s_iload_n X (pc := 24) (x := nI k2) 2 dX1_firstWrong_24 rfl ?_
          refine s_iald X (pc := 25) (n := 15) (f := a0) 1 rfl (vp_in_nI (by omega) (by decide)) dX1_firstWrong_25 ?_
          refine s_iald X (pc := 26) (n := 5) (f := b3) 7 rfl (by rw [nI_clamp (by omega)]; exact hE _ hlt2) dX1_firstWrong_26 ?_
          refine s_aload_n X (pc := 27) (x := (ad 0)) 0 dX1_firstWrong_27 rfl ?_
          refine s_get X (pc := 28) (v := .ref (ad 2)) iX1_firstWrong_X1 0 rfl rfl 1 (by decide) kX1_firstWrong_15 rfl rfl dX1_firstWrong_28 ?_
          refine s_iload_n X (pc := 31) (x := nI k2) 2 dX1_firstWrong_31 rfl ?_
          refine s_iald X (pc := 32) (n := 15) (f := a1) 2 rfl (vp_in_nI (by omega) (by decide)) dX1_firstWrong_32 ?_
          refine s_icmp_eq X (pc := 33) (tgt := 38) dX1_firstWrong_33 (by decide) (fun c33 => ?_) (fun c33 => ?_)
          ·
            refine s_iinc X (pc := 38) (v := nI (k2 + 1)) (lv2 := [(2, .int (nI (k2 + 1))), (0, .ref (ad 0)), (1, .ref (bd 0))]) 2 dX1_firstWrong_38 rfl (nI_1 _) (by decide) rfl ?_
            refine s_goto X (pc := 41) (tgt := 2) dX1_firstWrong_41 (by decide) ?_
            refine s_perm (lv2 := [(0, .ref (ad 0)), (1, .ref (bd 0)), (2, .int (nI (k2 + 1)))]) [1, 2, 0] rfl ?_
            exact ih2 (k2 + 1)  (by omega) (hv2.trans (show aX1_firstWrong_2 a0 a1 b3 (n2 + 1) k2  = aX1_firstWrong_2 a0 a1 b3 n2 (k2 + 1)  from by rw [aX1_firstWrong_2]; exact (if_pos c33)))
          ·
            refine s_iload_n X (pc := 36) (x := nI k2) 2 dX1_firstWrong_36 rfl ?_
            exact s_iret X (pc := 37) (v := nI k2) dX1_firstWrong_37 (Eq.symm (show rX1_firstWrong a0 a1 a2 b3 = nI k2 from (hv2.trans (show aX1_firstWrong_2 a0 a1 b3 (n2 + 1) k2  = nI k2 from by rw [aX1_firstWrong_2]; exact (if_neg c33))))) rfl
  exact L2 a2.toNatClampNeg 0  (Nat.zero_add _) rfl

theorem iX3_next_X3 : ∀ z ∈ wsX30, z ∈ wsX3_next := fun z h => List.mem_cons_of_mem _ (List.mem_append_right _ h)
theorem kX3_next_9 : Cond.fieldLink RX3 9 "BathingCourt$Draws" (TX3 0).2.1 (TX3 0).2.2.1 ∈ wsX3_next := List.mem_of_getElem? (i := 1) rfl
theorem kX3_next_l15 : Jvm.Cond.constantLong RX3 15 (1103515245) ∈ wsX3_next := List.mem_of_getElem? (i := 2) rfl
theorem kX3_next_l17 : Jvm.Cond.constantLong RX3 17 (12345) ∈ wsX3_next := List.mem_of_getElem? (i := 3) rfl
theorem kX3_next_l19 : Jvm.Cond.constantLong RX3 19 (2147483648) ∈ wsX3_next := List.mem_of_getElem? (i := 4) rfl
theorem kX3_next_c21 : Jvm.Cond.constant RX3 21 (65536) ∈ wsX3_next := List.mem_of_getElem? (i := 5) rfl
def rX3_next (a0 p0 : Int32) : Int32 := if 0 < p0 then ((((((a0.toInt64 * (1103515245 : Int64)) + (12345 : Int64)) - ((a0.toInt64 * (1103515245 : Int64)) + (12345 : Int64)) / (2147483648 : Int64) * (2147483648 : Int64)).toInt32) / (65536 : Int32)) - (((((a0.toInt64 * (1103515245 : Int64)) + (12345 : Int64)) - ((a0.toInt64 * (1103515245 : Int64)) + (12345 : Int64)) / (2147483648 : Int64) * (2147483648 : Int64)).toInt32) / (65536 : Int32)) / p0 * p0) else (-1 : Int32)
def sX3_next_0 (a0 p0 : Int32) : Int32 := if 0 < p0 then ((((a0.toInt64 * (1103515245 : Int64)) + (12345 : Int64)) - ((a0.toInt64 * (1103515245 : Int64)) + (12345 : Int64)) / (2147483648 : Int64) * (2147483648 : Int64)).toInt32) else a0
set_option maxRecDepth 100000 in
set_option maxHeartbeats 4000000 in
theorem c_X3_next (l : Launch) (G : GT) (ad : Nat → Nat) (a0 p0 : Int32) : Ci l G yX3_next wsX3_next (rmL 0) [.ref (ad 0), .int p0] (wX3 G ad a0) (rX3_next a0 p0) (wX3 G ad (sX3_next_0 a0 p0)) := by
  refine ci_start .int (by decide) rfl rfl (Nat.le_of_ble_eq_true rfl) ?_
  intro p e s m args below meth c A X
  refine s_perm (lv2 := [(0, .ref (ad 0)), (1, .int p0)]) [0, 1] rfl ?_
  refine s_iload_n X (pc := 0) (x := p0) 1 dX3_next_0 rfl ?_
  refine s_if_gt X (pc := 1) (tgt := 6) dX3_next_1 (by decide) (fun c1 => ?_) (fun c1 => ?_)
  ·
    refine s_aload_n X (pc := 6) (x := (ad 0)) 0 dX3_next_6 rfl ?_
    refine s_aload_n X (pc := 7) (x := (ad 0)) 0 dX3_next_7 rfl ?_
    refine s_get X (pc := 8) (v := .int a0) iX3_next_X3 0 rfl rfl 0 (by decide) kX3_next_9 rfl rfl dX3_next_8 ?_
    refine s_i2l X (pc := 11) dX3_next_11 ?_
    refine s_ldc2 X (pc := 12) (v := 1103515245) kX3_next_l15 dX3_next_12 ?_
    refine s_lmul X (pc := 15) dX3_next_15 ?_
    refine s_ldc2 X (pc := 16) (v := 12345) kX3_next_l17 dX3_next_16 ?_
    refine s_ladd X (pc := 19) dX3_next_19 ?_
    refine s_ldc2 X (pc := 20) (v := 2147483648) kX3_next_l19 dX3_next_20 ?_
    refine s_lrem X (pc := 23) dX3_next_23 (by decide) ?_
    refine s_l2i X (pc := 24) dX3_next_24 ?_
    refine s_put X (pc := 25) (v := .int ((((a0.toInt64 * (1103515245 : Int64)) + (12345 : Int64)) - ((a0.toInt64 * (1103515245 : Int64)) + (12345 : Int64)) / (2147483648 : Int64) * (2147483648 : Int64)).toInt32)) (w2 := wX3 G ad ((((a0.toInt64 * (1103515245 : Int64)) + (12345 : Int64)) - ((a0.toInt64 * (1103515245 : Int64)) + (12345 : Int64)) / (2147483648 : Int64) * (2147483648 : Int64)).toInt32)) iX3_next_X3 0 rfl rfl 0 (by decide) kX3_next_9 rfl tyX3 tyX3_ok nmX3 rfl (ty := .int) (by decide +kernel) rfl rfl (Nat.le_of_ble_eq_true rfl) rfl dX3_next_25 ?_
    refine s_aload_n X (pc := 28) (x := (ad 0)) 0 dX3_next_28 rfl ?_
    refine s_get X (pc := 29) (v := .int ((((a0.toInt64 * (1103515245 : Int64)) + (12345 : Int64)) - ((a0.toInt64 * (1103515245 : Int64)) + (12345 : Int64)) / (2147483648 : Int64) * (2147483648 : Int64)).toInt32)) iX3_next_X3 0 rfl rfl 0 (by decide) kX3_next_9 rfl rfl dX3_next_29 ?_
    refine s_ldc X (pc := 32) (v := 65536) kX3_next_c21 dX3_next_32 ?_
    refine s_idiv X (pc := 34) dX3_next_34 (by decide) ?_
    refine s_iload_n X (pc := 35) (x := p0) 1 dX3_next_35 rfl ?_
    refine s_irem X (pc := 36) dX3_next_36 (by grind) ?_
    exact s_iret X (pc := 37) (v := (((((a0.toInt64 * (1103515245 : Int64)) + (12345 : Int64)) - ((a0.toInt64 * (1103515245 : Int64)) + (12345 : Int64)) / (2147483648 : Int64) * (2147483648 : Int64)).toInt32) / (65536 : Int32)) - (((((a0.toInt64 * (1103515245 : Int64)) + (12345 : Int64)) - ((a0.toInt64 * (1103515245 : Int64)) + (12345 : Int64)) / (2147483648 : Int64) * (2147483648 : Int64)).toInt32) / (65536 : Int32)) / p0 * p0) dX3_next_37 (Eq.symm (show rX3_next a0 p0 = (((((a0.toInt64 * (1103515245 : Int64)) + (12345 : Int64)) - ((a0.toInt64 * (1103515245 : Int64)) + (12345 : Int64)) / (2147483648 : Int64) * (2147483648 : Int64)).toInt32) / (65536 : Int32)) - (((((a0.toInt64 * (1103515245 : Int64)) + (12345 : Int64)) - ((a0.toInt64 * (1103515245 : Int64)) + (12345 : Int64)) / (2147483648 : Int64) * (2147483648 : Int64)).toInt32) / (65536 : Int32)) / p0 * p0 from (by unfold rX3_next; exact (if_pos c1)))) (by rw [show sX3_next_0 a0 p0 = (((a0.toInt64 * (1103515245 : Int64)) + (12345 : Int64)) - ((a0.toInt64 * (1103515245 : Int64)) + (12345 : Int64)) / (2147483648 : Int64) * (2147483648 : Int64)).toInt32 from (by unfold sX3_next_0; exact (if_pos c1))])
  ·
    refine s_iconst X (pc := 4) (v := -1) dX3_next_4 (by decide) ?_
    exact s_iret X (pc := 5) (v := (-1 : Int32)) dX3_next_5 (Eq.symm (show rX3_next a0 p0 = (-1 : Int32) from (by unfold rX3_next; exact (if_neg c1)))) (by rw [show sX3_next_0 a0 p0 = a0 from (by unfold sX3_next_0; exact (if_neg c1))])

theorem iX4_add_X4 : ∀ z ∈ wsX40, z ∈ wsX4_add := fun z h => List.mem_cons_of_mem _ (List.mem_append_right _ h)
theorem kX4_add_19 : Cond.fieldLink RX4 19 "BathingCourt$Ear" (TX4 2).2.1 (TX4 2).2.2.1 ∈ wsX4_add := List.mem_of_getElem? (i := 1) rfl
theorem kX4_add_9 : Cond.fieldLink RX4 9 "BathingCourt$Ear" (TX4 0).2.1 (TX4 0).2.2.1 ∈ wsX4_add := List.mem_of_getElem? (i := 2) rfl
theorem kX4_add_15 : Cond.fieldLink RX4 15 "BathingCourt$Ear" (TX4 1).2.1 (TX4 1).2.2.1 ∈ wsX4_add := List.mem_of_getElem? (i := 3) rfl
def rX4_add (a2 : Int32) : Int32 := if (6 : Int32) ≤ a2 then a2 else (a2 + (1 : Int32))
def sX4_add_0 (a0 : Nat → Int32) (a2 p0 : Int32) : Nat → Int32 := if (6 : Int32) ≤ a2 then a0 else (upd a0 a2.toNatClampNeg p0)
def sX4_add_1 (a1 : Nat → Int32) (a2 p1 : Int32) : Nat → Int32 := if (6 : Int32) ≤ a2 then a1 else (upd a1 a2.toNatClampNeg p1)
def sX4_add_2 (a2 : Int32) : Int32 := if (6 : Int32) ≤ a2 then a2 else (a2 + (1 : Int32))
set_option maxRecDepth 100000 in
set_option maxHeartbeats 4000000 in
theorem c_X4_add (l : Launch) (G : GT) (ad : Nat → Nat) (a0 a1 : Nat → Int32) (a2 p0 p1 : Int32) (h0 : 0 ≤ a2) (hz : p1 = 0 ∨ p1 = 1) : Ci l G yX4_add wsX4_add (rmL 0) [.ref (ad 0), .int p0, .int p1] (wX4 G ad a0 a1 a2) (rX4_add a2) (wX4 G ad (sX4_add_0 a0 a2 p0) (sX4_add_1 a1 a2 p1) (sX4_add_2 a2)) := by
  refine ci_start .int (by decide) rfl rfl (Nat.le_of_ble_eq_true rfl) ?_
  intro p e s m args below meth c A X
  refine s_perm (lv2 := [(0, .ref (ad 0)), (1, .int p0), (2, .int p1)]) [0, 1, 2] rfl ?_
  refine s_aload_n X (pc := 0) (x := (ad 0)) 0 dX4_add_0 rfl ?_
  refine s_get X (pc := 1) (v := .int a2) iX4_add_X4 0 rfl rfl 2 (by decide) kX4_add_19 rfl rfl dX4_add_1 ?_
  refine s_bipush X (pc := 4) (v := 6) dX4_add_4 (by decide) ?_
  refine s_icmp_ge X (pc := 6) (tgt := 39) dX4_add_6 (by decide) (fun c6 => ?_) (fun c6 => ?_)
  ·
    refine s_aload_n X (pc := 39) (x := (ad 0)) 0 dX4_add_39 rfl ?_
    refine s_get X (pc := 40) (v := .int a2) iX4_add_X4 0 rfl rfl 2 (by decide) kX4_add_19 rfl rfl dX4_add_40 ?_
    exact s_iret X (pc := 43) (v := a2) dX4_add_43 (Eq.symm (show rX4_add a2 = a2 from (by unfold rX4_add; exact (if_pos c6)))) (by rw [show sX4_add_0 a0 a2 p0 = a0 from (by unfold sX4_add_0; exact (if_pos c6)), show sX4_add_1 a1 a2 p1 = a1 from (by unfold sX4_add_1; exact (if_pos c6)), show sX4_add_2 a2 = a2 from (by unfold sX4_add_2; exact (if_pos c6))])
  ·
    refine s_aload_n X (pc := 9) (x := (ad 0)) 0 dX4_add_9 rfl ?_
    refine s_get X (pc := 10) (v := .ref (ad 1)) iX4_add_X4 0 rfl rfl 0 (by decide) kX4_add_9 rfl rfl dX4_add_10 ?_
    refine s_aload_n X (pc := 13) (x := (ad 0)) 0 dX4_add_13 rfl ?_
    refine s_get X (pc := 14) (v := .int a2) iX4_add_X4 0 rfl rfl 2 (by decide) kX4_add_19 rfl rfl dX4_add_14 ?_
    refine s_iload_n X (pc := 17) (x := p0) 1 dX4_add_17 rfl ?_
    refine s_iast X (pc := 18) (n := 6) (f := a0) (w2 := wX4 G ad (upd a0 a2.toNatClampNeg p0) a1 a2) 1 rfl (by first | with_reducible assumption | exact vin (b := 6) rfl (by grind) (by grind)) rfl dX4_add_18 ?_
    refine s_aload_n X (pc := 19) (x := (ad 0)) 0 dX4_add_19 rfl ?_
    refine s_get X (pc := 20) (v := .ref (ad 2)) iX4_add_X4 0 rfl rfl 1 (by decide) kX4_add_15 rfl rfl dX4_add_20 ?_
    refine s_aload_n X (pc := 23) (x := (ad 0)) 0 dX4_add_23 rfl ?_
    refine s_get X (pc := 24) (v := .int a2) iX4_add_X4 0 rfl rfl 2 (by decide) kX4_add_19 rfl rfl dX4_add_24 ?_
    refine s_iload_n X (pc := 27) (x := p1) 2 dX4_add_27 rfl ?_
    refine s_zast X (pc := 28) (n := 6) (f := a1) (w2 := wX4 G ad (upd a0 a2.toNatClampNeg p0) (upd a1 a2.toNatClampNeg p1) a2) 2 rfl (by first | with_reducible assumption | exact vin (b := 6) rfl (by grind) (by grind)) hz rfl dX4_add_28 ?_
    refine s_aload_n X (pc := 29) (x := (ad 0)) 0 dX4_add_29 rfl ?_
    refine s_dup X (pc := 30) dX4_add_30 rfl ?_
    refine s_get X (pc := 31) (v := .int a2) iX4_add_X4 0 rfl rfl 2 (by decide) kX4_add_19 rfl rfl dX4_add_31 ?_
    refine s_iconst X (pc := 34) (v := 1) dX4_add_34 (by decide) ?_
    refine s_iadd X (pc := 35) dX4_add_35 ?_
    refine s_put X (pc := 36) (v := .int (a2 + (1 : Int32))) (w2 := wX4 G ad (upd a0 a2.toNatClampNeg p0) (upd a1 a2.toNatClampNeg p1) (a2 + (1 : Int32))) iX4_add_X4 0 rfl rfl 2 (by decide) kX4_add_19 rfl tyX4 tyX4_ok nmX4 rfl (ty := .int) (by decide +kernel) rfl rfl (Nat.le_of_ble_eq_true rfl) rfl dX4_add_36 ?_
    refine s_aload_n X (pc := 39) (x := (ad 0)) 0 dX4_add_39 rfl ?_
    refine s_get X (pc := 40) (v := .int (a2 + (1 : Int32))) iX4_add_X4 0 rfl rfl 2 (by decide) kX4_add_19 rfl rfl dX4_add_40 ?_
    exact s_iret X (pc := 43) (v := a2 + (1 : Int32)) dX4_add_43 (Eq.symm (show rX4_add a2 = a2 + (1 : Int32) from (by unfold rX4_add; exact (if_neg c6)))) (by rw [show sX4_add_0 a0 a2 p0 = upd a0 a2.toNatClampNeg p0 from (by unfold sX4_add_0; exact (if_neg c6)), show sX4_add_1 a1 a2 p1 = upd a1 a2.toNatClampNeg p1 from (by unfold sX4_add_1; exact (if_neg c6)), show sX4_add_2 a2 = a2 + (1 : Int32) from (by unfold sX4_add_2; exact (if_neg c6))])

theorem iX4_forget_X4 : ∀ z ∈ wsX40, z ∈ wsX4_forget := fun z h => List.mem_cons_of_mem _ (List.mem_append_right _ h)
theorem kX4_forget_19 : Cond.fieldLink RX4 19 "BathingCourt$Ear" (TX4 2).2.1 (TX4 2).2.2.1 ∈ wsX4_forget := List.mem_of_getElem? (i := 1) rfl
def sX4_forget_2 : Int32 := (0 : Int32)
set_option maxRecDepth 100000 in
set_option maxHeartbeats 4000000 in
theorem c_X4_forget (l : Launch) (G : GT) (ad : Nat → Nat) (a0 a1 : Nat → Int32) (a2 : Int32) : Cv l G yX4_forget wsX4_forget (rmL 0) [.ref (ad 0)] (wX4 G ad a0 a1 a2) (wX4 G ad a0 a1 sX4_forget_2) := by
  refine cv_start (by decide) rfl rfl (Nat.le_of_ble_eq_true rfl) ?_
  intro p e s m args below meth c A X
  refine s_perm (lv2 := [(0, .ref (ad 0))]) [0] rfl ?_
  refine s_aload_n X (pc := 0) (x := (ad 0)) 0 dX4_forget_0 rfl ?_
  refine s_iconst X (pc := 1) (v := 0) dX4_forget_1 (by decide) ?_
  refine s_put X (pc := 2) (v := .int (0 : Int32)) (w2 := wX4 G ad a0 a1 (0 : Int32)) iX4_forget_X4 0 rfl rfl 2 (by decide) kX4_forget_19 rfl tyX4 tyX4_ok nmX4 rfl (ty := .int) (by decide +kernel) rfl rfl (Nat.le_of_ble_eq_true rfl) rfl dX4_forget_2 ?_
  exact s_vret X (pc := 5) dX4_forget_5 (by rw [show sX4_forget_2 = (0 : Int32) from rfl])

theorem iX4_fitsAll_X4 : ∀ z ∈ wsX40, z ∈ wsX4_fitsAll := fun z h => List.mem_cons_of_mem _ (List.mem_append_right _ h)
theorem kX4_fitsAll_19 : Cond.fieldLink RX4 19 "BathingCourt$Ear" (TX4 2).2.1 (TX4 2).2.2.1 ∈ wsX4_fitsAll := List.mem_of_getElem? (i := 1) rfl
theorem kX4_fitsAll_9 : Cond.fieldLink RX4 9 "BathingCourt$Ear" (TX4 0).2.1 (TX4 0).2.2.1 ∈ wsX4_fitsAll := List.mem_of_getElem? (i := 2) rfl
theorem kX4_fitsAll_15 : Cond.fieldLink RX4 15 "BathingCourt$Ear" (TX4 1).2.1 (TX4 1).2.2.1 ∈ wsX4_fitsAll := List.mem_of_getElem? (i := 3) rfl
def aX4_fitsAll_2 (a0 a1 : Nat → Int32) (p0 : Int32) : Nat → Nat → Int32
  | 0, k2 => (1 : Int32)
  | n2 + 1, k2 => if (a0 (nI k2).toNatClampNeg) ≤ p0 then (if (0 : Int32) = (a1 (nI k2).toNatClampNeg) then (aX4_fitsAll_2 a0 a1 p0 n2 (k2 + 1)) else (0 : Int32)) else (if (1 : Int32) = (a1 (nI k2).toNatClampNeg) then (aX4_fitsAll_2 a0 a1 p0 n2 (k2 + 1)) else (0 : Int32))
def rX4_fitsAll (a0 a1 : Nat → Int32) (a2 p0 : Int32) : Int32 := aX4_fitsAll_2 a0 a1 p0 a2.toNatClampNeg 0 
set_option maxRecDepth 100000 in
set_option maxHeartbeats 4000000 in
theorem c_X4_fitsAll (l : Launch) (G : GT) (ad : Nat → Nat) (a0 a1 : Nat → Int32) (a2 p0 : Int32) (h0 : 0 ≤ a2) (h1 : a2 ≤ 6) : Ci l G yX4_fitsAll wsX4_fitsAll (rmL 0) [.ref (ad 0), .int p0] (wX4 G ad a0 a1 a2) (rX4_fitsAll a0 a1 a2 p0) (wX4 G ad a0 a1 a2) := by
  refine ci_start .boolean (by decide) rfl rfl (Nat.le_of_ble_eq_true rfl) ?_
  intro p e s m args below meth c A X
  have e2 := clampInt h0
  have hN := clampLe (n := 6) (b := 6) rfl h0 h1
  refine s_perm (lv2 := [(0, .ref (ad 0)), (1, .int p0)]) [0, 1] rfl ?_
  refine s_iconst X (pc := 0) (v := 0) dX4_fitsAll_0 (by decide) ?_
  refine s_istore_n X (pc := 1) (i := 2) (lv2 := [(2, .int (0 : Int32)), (0, .ref (ad 0)), (1, .int p0)]) dX4_fitsAll_1 rfl (by decide) rfl ?_
  refine s_perm (lv2 := [(0, .ref (ad 0)), (1, .int p0), (2, .int (0 : Int32))]) [1, 2, 0] rfl ?_
  have L2 : ∀ (n2 k2 : Nat), k2 + n2 = a2.toNatClampNeg → rX4_fitsAll a0 a1 a2 p0 = aX4_fitsAll_2 a0 a1 p0 n2 k2  → Sm p l e (rmL 0) s m args below meth c G A 3 0 0 (Qci below G A args s (rX4_fitsAll a0 a1 a2 p0) (wX4 G ad a0 a1 a2)) 2 [(0, .ref (ad 0)), (1, .int p0), (2, .int (nI k2))] [] (wX4 G ad a0 a1 a2) := by
    intro n2
    induction n2 with
    | zero =>
      intro k2  hk2 hv2
      have hK2 : k2 = a2.toNatClampNeg := by omega
      have tk2 : (nI k2).toInt = ((k2 : Nat) : Int) := nI_toInt (by omega)
      have eN2 : (a2).toInt = ((a2.toNatClampNeg : Nat) : Int) := e2
      refine s_iload_n X (pc := 2) (x := nI k2) 2 dX4_fitsAll_2 rfl ?_
      refine s_aload_n X (pc := 3) (x := (ad 0)) 0 dX4_fitsAll_3 rfl ?_
      refine s_get X (pc := 4) (v := .int a2) iX4_fitsAll_X4 0 rfl rfl 2 (by decide) kX4_fitsAll_19 rfl rfl dX4_fitsAll_4 ?_
      refine s_icmp_ge X (pc := 7) (tgt := 48) dX4_fitsAll_7 (by decide) (fun c7 => ?_) (fun c7 => ?_)
      ·
        refine s_iconst X (pc := 48) (v := 1) dX4_fitsAll_48 (by decide) ?_
        exact s_zret X (pc := 49) (v := (1 : Int32)) (Or.inr rfl) dX4_fitsAll_49 (Eq.symm (show rX4_fitsAll a0 a1 a2 p0 = (1 : Int32) from (hv2.trans (show aX4_fitsAll_2 a0 a1 p0 0 k2  = (1 : Int32) from by rw [aX4_fitsAll_2])))) rfl
      ·
        exact absurd ((t_le eN2 tk2).mpr (by omega)) c7
    | succ n2 ih2 =>
      intro k2  hk2 hv2
      have hlt2 : k2 < a2.toNatClampNeg := by omega
      have tk2 : (nI k2).toInt = ((k2 : Nat) : Int) := nI_toInt (by omega)
      have eN2 : (a2).toInt = ((a2.toNatClampNeg : Nat) : Int) := e2
      refine s_iload_n X (pc := 2) (x := nI k2) 2 dX4_fitsAll_2 rfl ?_
      refine s_aload_n X (pc := 3) (x := (ad 0)) 0 dX4_fitsAll_3 rfl ?_
      refine s_get X (pc := 4) (v := .int a2) iX4_fitsAll_X4 0 rfl rfl 2 (by decide) kX4_fitsAll_19 rfl rfl dX4_fitsAll_4 ?_
      refine s_icmp_ge X (pc := 7) (tgt := 48) dX4_fitsAll_7 (by decide) (fun c7 => ?_) (fun c7 => ?_)
      ·
        exact absurd ((t_le eN2 tk2).mp c7) (by omega)
      ·
        refine s_iload_n X (pc := 10) (x := nI k2) 2 dX4_fitsAll_10 rfl ?_
        refine s_bipush X (pc := 11) (v := 6) dX4_fitsAll_11 (by decide) ?_
        refine s_icmp_ge X (pc := 13) (tgt := 48) dX4_fitsAll_13 (by decide) (fun c13 => ?_) (fun c13 => ?_)
        ·
          exact absurd ((t_le (x := 6) rfl tk2).mp c13) (by omega)
        ·
          refine s_aload_n X (pc := 16) (x := (ad 0)) 0 dX4_fitsAll_16 rfl ?_
          refine s_get X (pc := 17) (v := .ref (ad 1)) iX4_fitsAll_X4 0 rfl rfl 0 (by decide) kX4_fitsAll_9 rfl rfl dX4_fitsAll_17 ?_
          refine s_iload_n X (pc := 20) (x := nI k2) 2 dX4_fitsAll_20 rfl ?_
          refine s_iald X (pc := 21) (n := 6) (f := a0) 1 rfl (vp_in_nI (by omega) (by decide)) dX4_fitsAll_21 ?_
          refine s_iload_n X (pc := 22) (x := p0) 1 dX4_fitsAll_22 rfl ?_
          refine s_icmp_le X (pc := 23) (tgt := 30) dX4_fitsAll_23 (by decide) (fun c23 => ?_) (fun c23 => ?_)
          ·
            refine s_iconst X (pc := 30) (v := 0) dX4_fitsAll_30 (by decide) ?_
            refine s_aload_n X (pc := 31) (x := (ad 0)) 0 dX4_fitsAll_31 rfl ?_
            refine s_get X (pc := 32) (v := .ref (ad 2)) iX4_fitsAll_X4 0 rfl rfl 1 (by decide) kX4_fitsAll_15 rfl rfl dX4_fitsAll_32 ?_
            refine s_iload_n X (pc := 35) (x := nI k2) 2 dX4_fitsAll_35 rfl ?_
            refine s_zald X (pc := 36) (n := 6) (f := a1) 2 rfl (vp_in_nI (by omega) (by decide)) dX4_fitsAll_36 ?_
            refine s_icmp_eq X (pc := 37) (tgt := 42) dX4_fitsAll_37 (by decide) (fun c37 => ?_) (fun c37 => ?_)
            ·
              refine s_iinc X (pc := 42) (v := nI (k2 + 1)) (lv2 := [(2, .int (nI (k2 + 1))), (0, .ref (ad 0)), (1, .int p0)]) 2 dX4_fitsAll_42 rfl (nI_1 _) (by decide) rfl ?_
              refine s_goto X (pc := 45) (tgt := 2) dX4_fitsAll_45 (by decide) ?_
              refine s_perm (lv2 := [(0, .ref (ad 0)), (1, .int p0), (2, .int (nI (k2 + 1)))]) [1, 2, 0] rfl ?_
              exact ih2 (k2 + 1)  (by omega) (hv2.trans (show aX4_fitsAll_2 a0 a1 p0 (n2 + 1) k2  = aX4_fitsAll_2 a0 a1 p0 n2 (k2 + 1)  from by rw [aX4_fitsAll_2]; exact ((if_pos c23).trans (if_pos c37))))
            ·
              refine s_iconst X (pc := 40) (v := 0) dX4_fitsAll_40 (by decide) ?_
              exact s_zret X (pc := 41) (v := (0 : Int32)) (Or.inl rfl) dX4_fitsAll_41 (Eq.symm (show rX4_fitsAll a0 a1 a2 p0 = (0 : Int32) from (hv2.trans (show aX4_fitsAll_2 a0 a1 p0 (n2 + 1) k2  = (0 : Int32) from by rw [aX4_fitsAll_2]; exact ((if_pos c23).trans (if_neg c37)))))) rfl
          ·
            refine s_iconst X (pc := 26) (v := 1) dX4_fitsAll_26 (by decide) ?_
            refine s_goto X (pc := 27) (tgt := 31) dX4_fitsAll_27 (by decide) ?_
            refine s_aload_n X (pc := 31) (x := (ad 0)) 0 dX4_fitsAll_31 rfl ?_
            refine s_get X (pc := 32) (v := .ref (ad 2)) iX4_fitsAll_X4 0 rfl rfl 1 (by decide) kX4_fitsAll_15 rfl rfl dX4_fitsAll_32 ?_
            refine s_iload_n X (pc := 35) (x := nI k2) 2 dX4_fitsAll_35 rfl ?_
            refine s_zald X (pc := 36) (n := 6) (f := a1) 2 rfl (vp_in_nI (by omega) (by decide)) dX4_fitsAll_36 ?_
            refine s_icmp_eq X (pc := 37) (tgt := 42) dX4_fitsAll_37 (by decide) (fun c37 => ?_) (fun c37 => ?_)
            ·
              refine s_iinc X (pc := 42) (v := nI (k2 + 1)) (lv2 := [(2, .int (nI (k2 + 1))), (0, .ref (ad 0)), (1, .int p0)]) 2 dX4_fitsAll_42 rfl (nI_1 _) (by decide) rfl ?_
              refine s_goto X (pc := 45) (tgt := 2) dX4_fitsAll_45 (by decide) ?_
              refine s_perm (lv2 := [(0, .ref (ad 0)), (1, .int p0), (2, .int (nI (k2 + 1)))]) [1, 2, 0] rfl ?_
              exact ih2 (k2 + 1)  (by omega) (hv2.trans (show aX4_fitsAll_2 a0 a1 p0 (n2 + 1) k2  = aX4_fitsAll_2 a0 a1 p0 n2 (k2 + 1)  from by rw [aX4_fitsAll_2]; exact ((if_neg c23).trans (if_pos c37))))
            ·
              refine s_iconst X (pc := 40) (v := 0) dX4_fitsAll_40 (by decide) ?_
              exact s_zret X (pc := 41) (v := (0 : Int32)) (Or.inl rfl) dX4_fitsAll_41 (Eq.symm (show rX4_fitsAll a0 a1 a2 p0 = (0 : Int32) from (hv2.trans (show aX4_fitsAll_2 a0 a1 p0 (n2 + 1) k2  = (0 : Int32) from by rw [aX4_fitsAll_2]; exact ((if_neg c23).trans (if_neg c37)))))) rfl
  exact L2 a2.toNatClampNeg 0  (Nat.zero_add _) rfl
theorem baX4_fitsAll_2 (a0 a1 : Nat → Int32) (p0 : Int32) : ∀ (nn : Nat) (z0 : _), aX4_fitsAll_2 a0 a1 p0 nn z0 = 0 ∨ aX4_fitsAll_2 a0 a1 p0 nn z0 = 1 := by
  intro nn
  induction nn with
  | zero =>
    intro z0
    unfold aX4_fitsAll_2
    repeat' split
    all_goals first | exact Or.inl rfl | exact Or.inr rfl
  | succ nn ih =>
    intro z0
    unfold aX4_fitsAll_2
    repeat' split
    all_goals first | exact Or.inl rfl | exact Or.inr rfl | exact ih _
theorem bX4_fitsAll (a0 a1 : Nat → Int32) (a2 p0 : Int32) : rX4_fitsAll a0 a1 a2 p0 = 0 ∨ rX4_fitsAll a0 a1 a2 p0 = 1 := by
  unfold rX4_fitsAll
  repeat' split
  all_goals first | exact Or.inl rfl | exact Or.inr rfl | exact baX4_fitsAll_2 _ _ _ _ _

def aX4_allThatFits_4 (a0 a1 : Nat → Int32) (a2 : Int32) : Nat → Int32
  | 0 => (0 : Int32)
  | k4 + 1 => if (rX4_fitsAll a0 a1 a2 (nI k4)) = 0 then (aX4_allThatFits_4 a0 a1 a2 k4) else ((aX4_allThatFits_4 a0 a1 a2 k4) ||| ((1 : Int32) <<< ((nI k4) &&& 31)))
def rX4_allThatFits (a0 a1 : Nat → Int32) (a2 : Int32) : Int32 := (aX4_allThatFits_4 a0 a1 a2 11)
set_option maxRecDepth 100000 in
set_option maxHeartbeats 4000000 in
theorem c_X4_allThatFits (l : Launch) (G : GT) (ad : Nat → Nat) (a0 a1 : Nat → Int32) (a2 : Int32) (h0 : 0 ≤ a2) (h1 : a2 ≤ 6) : Ci l G yX4_allThatFits wsX4_allThatFits (rmL 1) [.ref (ad 0)] (wX4 G ad a0 a1 a2) (rX4_allThatFits a0 a1 a2) (wX4 G ad a0 a1 a2) := by
  refine ci_start .int (by decide) rfl rfl (Nat.le_of_ble_eq_true rfl) ?_
  intro p e s m args below meth c A X
  refine s_perm (lv2 := [(0, .ref (ad 0))]) [0] rfl ?_
  refine s_iconst X (pc := 0) (v := 0) dX4_allThatFits_0 (by decide) ?_
  refine s_istore_n X (pc := 1) (i := 1) (lv2 := [(1, .int (0 : Int32)), (0, .ref (ad 0))]) dX4_allThatFits_1 rfl (by decide) rfl ?_
  refine s_iconst X (pc := 2) (v := 0) dX4_allThatFits_2 (by decide) ?_
  refine s_istore_n X (pc := 3) (i := 2) (lv2 := [(2, .int (0 : Int32)), (1, .int (0 : Int32)), (0, .ref (ad 0))]) dX4_allThatFits_3 rfl (by decide) rfl ?_
  refine s_perm (lv2 := [(0, .ref (ad 0)), (1, .int (0 : Int32)), (2, .int (0 : Int32))]) [2, 1, 0] rfl ?_
  have L4 : ∀ (n4 k4 : Nat), k4 + n4 = 11 → Sm p l e (rmL 1) s m args below meth c G A 3 0 0 (Qci below G A args s (rX4_allThatFits a0 a1 a2) (wX4 G ad a0 a1 a2)) 4 [(0, .ref (ad 0)), (1, .int (aX4_allThatFits_4 a0 a1 a2 k4)), (2, .int (nI k4))] [] (wX4 G ad a0 a1 a2) := by
    intro n4
    induction n4 with
    | zero =>
      intro k4 hk4
      have hK4 : k4 = 11 := by omega
      rw [hK4]
      have tk4 : (nI 11).toInt = ((11 : Nat) : Int) := nI_toInt (by omega)
      have eN4 : ((10 : Int32)).toInt = 10 := rfl
      refine s_iload_n X (pc := 4) (x := nI 11) 2 dX4_allThatFits_4 rfl ?_
      refine s_bipush X (pc := 5) (v := 10) dX4_allThatFits_5 (by decide) ?_
      refine s_icmp_gt X (pc := 7) (tgt := 30) dX4_allThatFits_7 (by decide) (fun c7 => ?_) (fun c7 => ?_)
      ·
        refine s_iload_n X (pc := 30) (x := (aX4_allThatFits_4 a0 a1 a2 11)) 1 dX4_allThatFits_30 rfl ?_
        exact s_iret X (pc := 31) (v := (aX4_allThatFits_4 a0 a1 a2 11)) dX4_allThatFits_31 rfl rfl
      ·
        exact absurd ((t_lt eN4 tk4).mpr (by omega)) c7
    | succ n4 ih4 =>
      intro k4 hk4
      have hlt4 : k4 < 11 := by omega
      have tk4 : (nI k4).toInt = ((k4 : Nat) : Int) := nI_toInt (by omega)
      have eN4 : ((10 : Int32)).toInt = 10 := rfl
      refine s_iload_n X (pc := 4) (x := nI k4) 2 dX4_allThatFits_4 rfl ?_
      refine s_bipush X (pc := 5) (v := 10) dX4_allThatFits_5 (by decide) ?_
      refine s_icmp_gt X (pc := 7) (tgt := 30) dX4_allThatFits_7 (by decide) (fun c7 => ?_) (fun c7 => ?_)
      ·
        exact absurd ((t_lt eN4 tk4).mp c7) (by omega)
      ·
        refine s_aload_n X (pc := 10) (x := (ad 0)) 0 dX4_allThatFits_10 rfl ?_
        refine s_iload_n X (pc := 11) (x := nI k4) 2 dX4_allThatFits_11 rfl ?_
        refine s_callVi0 X (pc := 12) (r := rX4_fitsAll a0 a1 a2 (nI k4)) (w := wX4 G ad a0 a1 a2) (n := 1) (st := []) (As := [.int (nI k4)]) (w2 := wX4 G ad a0 a1 a2) 0 (c_X4_fitsAll l G ad a0 a1 a2 (nI k4) h0 h1) gX4_allThatFits_X4_fitsAll rfl (by decide +kernel) ⟨Nat.le_of_ble_eq_true rfl, Nat.le_of_ble_eq_true rfl⟩ 0 rfl rfl rfl rfl (Nat.le_of_ble_eq_true rfl) (Nat.zero_le _) (Nat.zero_le _) dX4_allThatFits_12 ?_
        refine s_if_eq X (pc := 15) (tgt := 24) dX4_allThatFits_15 (by decide) (fun c15 => ?_) (fun c15 => ?_)
        ·
          refine s_iinc X (pc := 24) (v := nI (k4 + 1)) (lv2 := [(2, .int (nI (k4 + 1))), (0, .ref (ad 0)), (1, .int (aX4_allThatFits_4 a0 a1 a2 k4))]) 2 dX4_allThatFits_24 rfl (nI_1 _) (by decide) rfl ?_
          refine s_goto X (pc := 27) (tgt := 4) dX4_allThatFits_27 (by decide) ?_
          refine s_perm (lv2 := [(0, .ref (ad 0)), (1, .int (aX4_allThatFits_4 a0 a1 a2 k4)), (2, .int (nI (k4 + 1)))]) [1, 2, 0] rfl ?_
          have hb4 : (aX4_allThatFits_4 a0 a1 a2 (k4 + 1)) = (aX4_allThatFits_4 a0 a1 a2 k4) := by rw [aX4_allThatFits_4]; exact (if_pos c15)
          refine s_cast (lv2 := [(0, .ref (ad 0)), (1, .int (aX4_allThatFits_4 a0 a1 a2 (k4 + 1))), (2, .int (nI (k4 + 1)))]) (w2 := wX4 G ad a0 a1 a2) (by first | (rw [hb4]; done) | rfl) (by first | (rw [hb4]; done) | rfl) ?_
          exact ih4 (k4 + 1) (by omega)
        ·
          refine s_iload_n X (pc := 18) (x := (aX4_allThatFits_4 a0 a1 a2 k4)) 1 dX4_allThatFits_18 rfl ?_
          refine s_iconst X (pc := 19) (v := 1) dX4_allThatFits_19 (by decide) ?_
          refine s_iload_n X (pc := 20) (x := nI k4) 2 dX4_allThatFits_20 rfl ?_
          refine s_ishl X (pc := 21) dX4_allThatFits_21 ?_
          refine s_ior X (pc := 22) dX4_allThatFits_22 ?_
          refine s_istore_n X (pc := 23) (i := 1) (lv2 := [(1, .int ((aX4_allThatFits_4 a0 a1 a2 k4) ||| ((1 : Int32) <<< ((nI k4) &&& 31)))), (0, .ref (ad 0)), (2, .int (nI k4))]) dX4_allThatFits_23 rfl (by decide) rfl ?_
          refine s_iinc X (pc := 24) (v := nI (k4 + 1)) (lv2 := [(2, .int (nI (k4 + 1))), (1, .int ((aX4_allThatFits_4 a0 a1 a2 k4) ||| ((1 : Int32) <<< ((nI k4) &&& 31)))), (0, .ref (ad 0))]) 2 dX4_allThatFits_24 rfl (nI_1 _) (by decide) rfl ?_
          refine s_goto X (pc := 27) (tgt := 4) dX4_allThatFits_27 (by decide) ?_
          refine s_perm (lv2 := [(0, .ref (ad 0)), (1, .int ((aX4_allThatFits_4 a0 a1 a2 k4) ||| ((1 : Int32) <<< ((nI k4) &&& 31)))), (2, .int (nI (k4 + 1)))]) [2, 1, 0] rfl ?_
          have hb4 : (aX4_allThatFits_4 a0 a1 a2 (k4 + 1)) = (aX4_allThatFits_4 a0 a1 a2 k4) ||| ((1 : Int32) <<< ((nI k4) &&& 31)) := by rw [aX4_allThatFits_4]; exact (if_neg c15)
          refine s_cast (lv2 := [(0, .ref (ad 0)), (1, .int (aX4_allThatFits_4 a0 a1 a2 (k4 + 1))), (2, .int (nI (k4 + 1)))]) (w2 := wX4 G ad a0 a1 a2) (by first | (rw [hb4]; done) | rfl) (by first | (rw [hb4]; done) | rfl) ?_
          exact ih4 (k4 + 1) (by omega)
  exact L4 11 0 (Nat.zero_add _)

theorem kX4_bestDepth_m37 : Cond.methodLink RX4 37 Lib.Math.max.name ∈ wsX4_bestDepth := List.mem_of_getElem? (i := 1) rfl
theorem kX4_bestDepth_stmax : Cond.static Lib.Math.max.name ∈ wsX4_bestDepth := List.mem_of_getElem? (i := 2) rfl
theorem kX4_bestDepth_inMath : Cond.initialized "java/lang/Math" ∈ wsX4_bestDepth := List.mem_of_getElem? (i := 3) rfl
theorem kX4_bestDepth_comax : Cond.code Lib.Math.max.name Lib.Math.max.code 2 (some .int) ∈ wsX4_bestDepth := List.mem_of_getElem? (i := 4) rfl
def aX4_bestDepth_18 (a0 a1 : Nat → Int32) (a2 : Int32) : Nat → Int32 × Int32
  | 0 => ((-1 : Int32), rJ6_bitCount_0f7a4 (rX4_allThatFits a0 a1 a2))
  | k18 + 1 => if ((aX4_bestDepth_18 a0 a1 a2 k18).2) ≤ (if (rJ6_bitCount_0f7a4 ((rX4_allThatFits a0 a1 a2) &&& (((1 : Int32) <<< ((nI k18) &&& 31)) - (1 : Int32)))) < ((rJ6_bitCount_0f7a4 (rX4_allThatFits a0 a1 a2)) - (rJ6_bitCount_0f7a4 ((rX4_allThatFits a0 a1 a2) &&& (((1 : Int32) <<< ((nI k18) &&& 31)) - (1 : Int32))))) then ((rJ6_bitCount_0f7a4 (rX4_allThatFits a0 a1 a2)) - (rJ6_bitCount_0f7a4 ((rX4_allThatFits a0 a1 a2) &&& (((1 : Int32) <<< ((nI k18) &&& 31)) - (1 : Int32))))) else (rJ6_bitCount_0f7a4 ((rX4_allThatFits a0 a1 a2) &&& (((1 : Int32) <<< ((nI k18) &&& 31)) - (1 : Int32))))) then ((aX4_bestDepth_18 a0 a1 a2 k18).1, (aX4_bestDepth_18 a0 a1 a2 k18).2) else (nI k18, if (rJ6_bitCount_0f7a4 ((rX4_allThatFits a0 a1 a2) &&& (((1 : Int32) <<< ((nI k18) &&& 31)) - (1 : Int32)))) < ((rJ6_bitCount_0f7a4 (rX4_allThatFits a0 a1 a2)) - (rJ6_bitCount_0f7a4 ((rX4_allThatFits a0 a1 a2) &&& (((1 : Int32) <<< ((nI k18) &&& 31)) - (1 : Int32))))) then ((rJ6_bitCount_0f7a4 (rX4_allThatFits a0 a1 a2)) - (rJ6_bitCount_0f7a4 ((rX4_allThatFits a0 a1 a2) &&& (((1 : Int32) <<< ((nI k18) &&& 31)) - (1 : Int32))))) else (rJ6_bitCount_0f7a4 ((rX4_allThatFits a0 a1 a2) &&& (((1 : Int32) <<< ((nI k18) &&& 31)) - (1 : Int32)))))
def rX4_bestDepth (a0 a1 : Nat → Int32) (a2 : Int32) : Int32 := (aX4_bestDepth_18 a0 a1 a2 11).1
set_option maxRecDepth 100000 in
set_option maxHeartbeats 4000000 in
theorem c_X4_bestDepth (l : Launch) (G : GT) (ad : Nat → Nat) (a0 a1 : Nat → Int32) (a2 : Int32) (h0 : 0 ≤ a2) (h1 : a2 ≤ 6) : Ci l G yX4_bestDepth wsX4_bestDepth (rmL 2) [.ref (ad 0)] (wX4 G ad a0 a1 a2) (rX4_bestDepth a0 a1 a2) (wX4 G ad a0 a1 a2) := by
  refine ci_start .int (by decide) rfl rfl (Nat.le_of_ble_eq_true rfl) ?_
  intro p e s m args below meth c A X
  refine s_perm (lv2 := [(0, .ref (ad 0))]) [0] rfl ?_
  refine s_aload_n X (pc := 0) (x := (ad 0)) 0 dX4_bestDepth_0 rfl ?_
  refine s_callVi0 X (pc := 1) (r := rX4_allThatFits a0 a1 a2) (w := wX4 G ad a0 a1 a2) (n := 0) (st := []) (As := []) (w2 := wX4 G ad a0 a1 a2) 1 (c_X4_allThatFits l G ad a0 a1 a2 h0 h1) gX4_bestDepth_X4_allThatFits rfl (by decide +kernel) ⟨Nat.le_of_ble_eq_true rfl, Nat.le_of_ble_eq_true rfl⟩ 0 rfl rfl rfl rfl (Nat.le_of_ble_eq_true rfl) (Nat.zero_le _) (Nat.zero_le _) dX4_bestDepth_1 ?_
  refine s_istore_n X (pc := 4) (i := 1) (lv2 := [(1, .int (rX4_allThatFits a0 a1 a2)), (0, .ref (ad 0))]) dX4_bestDepth_4 rfl (by decide) rfl ?_
  refine s_iload_n X (pc := 5) (x := rX4_allThatFits a0 a1 a2) 0 dX4_bestDepth_5 rfl ?_
  refine s_callSiN X (pc := 6) (r := rJ6_bitCount_0f7a4 (rX4_allThatFits a0 a1 a2)) (n := 1) (st := []) (As := [.int (rX4_allThatFits a0 a1 a2)]) 0 (c_J6_bitCount_0f7a4 l G (rX4_allThatFits a0 a1 a2)) gX4_bestDepth_J6_bitCount_0f7a4 rfl (by decide +kernel) ⟨Nat.le_of_ble_eq_true rfl, Nat.le_of_ble_eq_true rfl⟩ rfl rfl (Nat.le_of_ble_eq_true rfl) (Nat.zero_le _) (Nat.zero_le _) dX4_bestDepth_6 ?_
  refine s_istore_n X (pc := 9) (i := 2) (lv2 := [(2, .int (rJ6_bitCount_0f7a4 (rX4_allThatFits a0 a1 a2))), (1, .int (rX4_allThatFits a0 a1 a2)), (0, .ref (ad 0))]) dX4_bestDepth_9 rfl (by decide) rfl ?_
  refine s_iconst X (pc := 10) (v := -1) dX4_bestDepth_10 (by decide) ?_
  refine s_istore_n X (pc := 11) (i := 3) (lv2 := [(3, .int (-1 : Int32)), (2, .int (rJ6_bitCount_0f7a4 (rX4_allThatFits a0 a1 a2))), (1, .int (rX4_allThatFits a0 a1 a2)), (0, .ref (ad 0))]) dX4_bestDepth_11 rfl (by decide) rfl ?_
  refine s_iload_n X (pc := 12) (x := rJ6_bitCount_0f7a4 (rX4_allThatFits a0 a1 a2)) 1 dX4_bestDepth_12 rfl ?_
  refine s_istore X (pc := 13) (i := 4) (lv2 := [(4, .int (rJ6_bitCount_0f7a4 (rX4_allThatFits a0 a1 a2))), (3, .int (-1 : Int32)), (2, .int (rJ6_bitCount_0f7a4 (rX4_allThatFits a0 a1 a2))), (1, .int (rX4_allThatFits a0 a1 a2)), (0, .ref (ad 0))]) dX4_bestDepth_13 (by decide) rfl ?_
  refine s_iconst X (pc := 15) (v := 0) dX4_bestDepth_15 (by decide) ?_
  refine s_istore X (pc := 16) (i := 5) (lv2 := [(5, .int (0 : Int32)), (4, .int (rJ6_bitCount_0f7a4 (rX4_allThatFits a0 a1 a2))), (3, .int (-1 : Int32)), (2, .int (rJ6_bitCount_0f7a4 (rX4_allThatFits a0 a1 a2))), (1, .int (rX4_allThatFits a0 a1 a2)), (0, .ref (ad 0))]) dX4_bestDepth_16 (by decide) rfl ?_
  refine s_perm (lv2 := [(0, .ref (ad 0)), (1, .int (rX4_allThatFits a0 a1 a2)), (2, .int (rJ6_bitCount_0f7a4 (rX4_allThatFits a0 a1 a2))), (3, .int (-1 : Int32)), (4, .int (rJ6_bitCount_0f7a4 (rX4_allThatFits a0 a1 a2))), (5, .int (0 : Int32))]) [5, 4, 3, 2, 1, 0] rfl ?_
  have L18 : ∀ (n18 k18 : Nat), k18 + n18 = 11 → Sm p l e (rmL 2) s m args below meth c G A 8 0 0 (Qci below G A args s (rX4_bestDepth a0 a1 a2) (wX4 G ad a0 a1 a2)) 18 [(0, .ref (ad 0)), (1, .int (rX4_allThatFits a0 a1 a2)), (2, .int (rJ6_bitCount_0f7a4 (rX4_allThatFits a0 a1 a2))), (3, .int ((aX4_bestDepth_18 a0 a1 a2 k18).1)), (4, .int ((aX4_bestDepth_18 a0 a1 a2 k18).2)), (5, .int (nI k18))] [] (wX4 G ad a0 a1 a2) := by
    intro n18
    induction n18 with
    | zero =>
      intro k18 hk18
      have hK18 : k18 = 11 := by omega
      rw [hK18]
      have tk18 : (nI 11).toInt = ((11 : Nat) : Int) := nI_toInt (by omega)
      have eN18 : ((10 : Int32)).toInt = 10 := rfl
      refine s_iload X (pc := 18) (x := nI 11) 5 dX4_bestDepth_18 rfl ?_
      refine s_bipush X (pc := 20) (v := 10) dX4_bestDepth_20 (by decide) ?_
      refine s_icmp_gt X (pc := 22) (tgt := 69) dX4_bestDepth_22 (by decide) (fun c22 => ?_) (fun c22 => ?_)
      ·
        refine s_iload_n X (pc := 69) (x := (aX4_bestDepth_18 a0 a1 a2 11).1) 3 dX4_bestDepth_69 rfl ?_
        exact s_iret X (pc := 70) (v := (aX4_bestDepth_18 a0 a1 a2 11).1) dX4_bestDepth_70 rfl rfl
      ·
        exact absurd ((t_lt eN18 tk18).mpr (by omega)) c22
    | succ n18 ih18 =>
      intro k18 hk18
      have hlt18 : k18 < 11 := by omega
      have tk18 : (nI k18).toInt = ((k18 : Nat) : Int) := nI_toInt (by omega)
      have eN18 : ((10 : Int32)).toInt = 10 := rfl
      refine s_iload X (pc := 18) (x := nI k18) 5 dX4_bestDepth_18 rfl ?_
      refine s_bipush X (pc := 20) (v := 10) dX4_bestDepth_20 (by decide) ?_
      refine s_icmp_gt X (pc := 22) (tgt := 69) dX4_bestDepth_22 (by decide) (fun c22 => ?_) (fun c22 => ?_)
      ·
        exact absurd ((t_lt eN18 tk18).mp c22) (by omega)
      ·
        refine s_iload_n X (pc := 25) (x := rX4_allThatFits a0 a1 a2) 1 dX4_bestDepth_25 rfl ?_
        refine s_iconst X (pc := 26) (v := 1) dX4_bestDepth_26 (by decide) ?_
        refine s_iload X (pc := 27) (x := nI k18) 5 dX4_bestDepth_27 rfl ?_
        refine s_ishl X (pc := 29) dX4_bestDepth_29 ?_
        refine s_iconst X (pc := 30) (v := 1) dX4_bestDepth_30 (by decide) ?_
        refine s_isub X (pc := 31) dX4_bestDepth_31 ?_
        refine s_iand X (pc := 32) dX4_bestDepth_32 ?_
        refine s_callSiN X (pc := 33) (r := rJ6_bitCount_0f7a4 ((rX4_allThatFits a0 a1 a2) &&& (((1 : Int32) <<< ((nI k18) &&& 31)) - (1 : Int32)))) (n := 1) (st := []) (As := [.int ((rX4_allThatFits a0 a1 a2) &&& (((1 : Int32) <<< ((nI k18) &&& 31)) - (1 : Int32)))]) 0 (c_J6_bitCount_0f7a4 l G ((rX4_allThatFits a0 a1 a2) &&& (((1 : Int32) <<< ((nI k18) &&& 31)) - (1 : Int32)))) gX4_bestDepth_J6_bitCount_0f7a4 rfl (by decide +kernel) ⟨Nat.le_of_ble_eq_true rfl, Nat.le_of_ble_eq_true rfl⟩ rfl rfl (Nat.le_of_ble_eq_true rfl) (Nat.zero_le _) (Nat.zero_le _) dX4_bestDepth_33 ?_
        refine s_istore X (pc := 36) (i := 6) (lv2 := [(6, .int (rJ6_bitCount_0f7a4 ((rX4_allThatFits a0 a1 a2) &&& (((1 : Int32) <<< ((nI k18) &&& 31)) - (1 : Int32))))), (0, .ref (ad 0)), (1, .int (rX4_allThatFits a0 a1 a2)), (2, .int (rJ6_bitCount_0f7a4 (rX4_allThatFits a0 a1 a2))), (3, .int ((aX4_bestDepth_18 a0 a1 a2 k18).1)), (4, .int ((aX4_bestDepth_18 a0 a1 a2 k18).2)), (5, .int (nI k18))]) dX4_bestDepth_36 (by decide) rfl ?_
        refine s_iload X (pc := 38) (x := rJ6_bitCount_0f7a4 ((rX4_allThatFits a0 a1 a2) &&& (((1 : Int32) <<< ((nI k18) &&& 31)) - (1 : Int32)))) 0 dX4_bestDepth_38 rfl ?_
        refine s_iload_n X (pc := 40) (x := rJ6_bitCount_0f7a4 (rX4_allThatFits a0 a1 a2)) 3 dX4_bestDepth_40 rfl ?_
        refine s_iload X (pc := 41) (x := rJ6_bitCount_0f7a4 ((rX4_allThatFits a0 a1 a2) &&& (((1 : Int32) <<< ((nI k18) &&& 31)) - (1 : Int32)))) 0 dX4_bestDepth_41 rfl ?_
        refine s_isub X (pc := 43) dX4_bestDepth_43 ?_
        refine s_max X (pc := 44) kX4_bestDepth_m37 kX4_bestDepth_stmax kX4_bestDepth_inMath kX4_bestDepth_comax (Nat.le_of_ble_eq_true rfl) (Nat.le_of_ble_eq_true rfl) (Nat.zero_le _) (Nat.zero_le _) dX4_bestDepth_44 ?_
        refine s_istore X (pc := 47) (i := 7) (lv2 := [(7, .int (if (rJ6_bitCount_0f7a4 ((rX4_allThatFits a0 a1 a2) &&& (((1 : Int32) <<< ((nI k18) &&& 31)) - (1 : Int32)))) < ((rJ6_bitCount_0f7a4 (rX4_allThatFits a0 a1 a2)) - (rJ6_bitCount_0f7a4 ((rX4_allThatFits a0 a1 a2) &&& (((1 : Int32) <<< ((nI k18) &&& 31)) - (1 : Int32))))) then ((rJ6_bitCount_0f7a4 (rX4_allThatFits a0 a1 a2)) - (rJ6_bitCount_0f7a4 ((rX4_allThatFits a0 a1 a2) &&& (((1 : Int32) <<< ((nI k18) &&& 31)) - (1 : Int32))))) else (rJ6_bitCount_0f7a4 ((rX4_allThatFits a0 a1 a2) &&& (((1 : Int32) <<< ((nI k18) &&& 31)) - (1 : Int32)))))), (6, .int (rJ6_bitCount_0f7a4 ((rX4_allThatFits a0 a1 a2) &&& (((1 : Int32) <<< ((nI k18) &&& 31)) - (1 : Int32))))), (0, .ref (ad 0)), (1, .int (rX4_allThatFits a0 a1 a2)), (2, .int (rJ6_bitCount_0f7a4 (rX4_allThatFits a0 a1 a2))), (3, .int ((aX4_bestDepth_18 a0 a1 a2 k18).1)), (4, .int ((aX4_bestDepth_18 a0 a1 a2 k18).2)), (5, .int (nI k18))]) dX4_bestDepth_47 (by decide) rfl ?_
        refine s_iload X (pc := 49) (x := if (rJ6_bitCount_0f7a4 ((rX4_allThatFits a0 a1 a2) &&& (((1 : Int32) <<< ((nI k18) &&& 31)) - (1 : Int32)))) < ((rJ6_bitCount_0f7a4 (rX4_allThatFits a0 a1 a2)) - (rJ6_bitCount_0f7a4 ((rX4_allThatFits a0 a1 a2) &&& (((1 : Int32) <<< ((nI k18) &&& 31)) - (1 : Int32))))) then ((rJ6_bitCount_0f7a4 (rX4_allThatFits a0 a1 a2)) - (rJ6_bitCount_0f7a4 ((rX4_allThatFits a0 a1 a2) &&& (((1 : Int32) <<< ((nI k18) &&& 31)) - (1 : Int32))))) else (rJ6_bitCount_0f7a4 ((rX4_allThatFits a0 a1 a2) &&& (((1 : Int32) <<< ((nI k18) &&& 31)) - (1 : Int32))))) 0 dX4_bestDepth_49 rfl ?_
        refine s_iload X (pc := 51) (x := (aX4_bestDepth_18 a0 a1 a2 k18).2) 6 dX4_bestDepth_51 rfl ?_
        refine s_icmp_ge X (pc := 53) (tgt := 63) dX4_bestDepth_53 (by decide) (fun c53 => ?_) (fun c53 => ?_)
        ·
          refine s_iinc X (pc := 63) (v := nI (k18 + 1)) (lv2 := [(5, .int (nI (k18 + 1))), (7, .int (if (rJ6_bitCount_0f7a4 ((rX4_allThatFits a0 a1 a2) &&& (((1 : Int32) <<< ((nI k18) &&& 31)) - (1 : Int32)))) < ((rJ6_bitCount_0f7a4 (rX4_allThatFits a0 a1 a2)) - (rJ6_bitCount_0f7a4 ((rX4_allThatFits a0 a1 a2) &&& (((1 : Int32) <<< ((nI k18) &&& 31)) - (1 : Int32))))) then ((rJ6_bitCount_0f7a4 (rX4_allThatFits a0 a1 a2)) - (rJ6_bitCount_0f7a4 ((rX4_allThatFits a0 a1 a2) &&& (((1 : Int32) <<< ((nI k18) &&& 31)) - (1 : Int32))))) else (rJ6_bitCount_0f7a4 ((rX4_allThatFits a0 a1 a2) &&& (((1 : Int32) <<< ((nI k18) &&& 31)) - (1 : Int32)))))), (6, .int (rJ6_bitCount_0f7a4 ((rX4_allThatFits a0 a1 a2) &&& (((1 : Int32) <<< ((nI k18) &&& 31)) - (1 : Int32))))), (0, .ref (ad 0)), (1, .int (rX4_allThatFits a0 a1 a2)), (2, .int (rJ6_bitCount_0f7a4 (rX4_allThatFits a0 a1 a2))), (3, .int ((aX4_bestDepth_18 a0 a1 a2 k18).1)), (4, .int ((aX4_bestDepth_18 a0 a1 a2 k18).2))]) 7 dX4_bestDepth_63 rfl (nI_1 _) (by decide) rfl ?_
          refine s_goto X (pc := 66) (tgt := 18) dX4_bestDepth_66 (by decide) ?_
          refine s_perm (lv2 := [(0, .ref (ad 0)), (1, .int (rX4_allThatFits a0 a1 a2)), (2, .int (rJ6_bitCount_0f7a4 (rX4_allThatFits a0 a1 a2))), (3, .int ((aX4_bestDepth_18 a0 a1 a2 k18).1)), (4, .int ((aX4_bestDepth_18 a0 a1 a2 k18).2)), (5, .int (nI (k18 + 1)))]) [3, 4, 5, 6, 7, 0] rfl ?_
          have hb18 : (aX4_bestDepth_18 a0 a1 a2 (k18 + 1)) = ((aX4_bestDepth_18 a0 a1 a2 k18).1, (aX4_bestDepth_18 a0 a1 a2 k18).2) := by rw [aX4_bestDepth_18]; exact (if_pos c53)
          refine s_cast (lv2 := [(0, .ref (ad 0)), (1, .int (rX4_allThatFits a0 a1 a2)), (2, .int (rJ6_bitCount_0f7a4 (rX4_allThatFits a0 a1 a2))), (3, .int ((aX4_bestDepth_18 a0 a1 a2 (k18 + 1)).1)), (4, .int ((aX4_bestDepth_18 a0 a1 a2 (k18 + 1)).2)), (5, .int (nI (k18 + 1)))]) (w2 := wX4 G ad a0 a1 a2) (by first | (rw [hb18]; done) | rfl) (by first | (rw [hb18]; done) | rfl) ?_
          exact ih18 (k18 + 1) (by omega)
        ·
          refine s_iload X (pc := 56) (x := if (rJ6_bitCount_0f7a4 ((rX4_allThatFits a0 a1 a2) &&& (((1 : Int32) <<< ((nI k18) &&& 31)) - (1 : Int32)))) < ((rJ6_bitCount_0f7a4 (rX4_allThatFits a0 a1 a2)) - (rJ6_bitCount_0f7a4 ((rX4_allThatFits a0 a1 a2) &&& (((1 : Int32) <<< ((nI k18) &&& 31)) - (1 : Int32))))) then ((rJ6_bitCount_0f7a4 (rX4_allThatFits a0 a1 a2)) - (rJ6_bitCount_0f7a4 ((rX4_allThatFits a0 a1 a2) &&& (((1 : Int32) <<< ((nI k18) &&& 31)) - (1 : Int32))))) else (rJ6_bitCount_0f7a4 ((rX4_allThatFits a0 a1 a2) &&& (((1 : Int32) <<< ((nI k18) &&& 31)) - (1 : Int32))))) 0 dX4_bestDepth_56 rfl ?_
          refine s_istore X (pc := 58) (i := 4) (lv2 := [(4, .int (if (rJ6_bitCount_0f7a4 ((rX4_allThatFits a0 a1 a2) &&& (((1 : Int32) <<< ((nI k18) &&& 31)) - (1 : Int32)))) < ((rJ6_bitCount_0f7a4 (rX4_allThatFits a0 a1 a2)) - (rJ6_bitCount_0f7a4 ((rX4_allThatFits a0 a1 a2) &&& (((1 : Int32) <<< ((nI k18) &&& 31)) - (1 : Int32))))) then ((rJ6_bitCount_0f7a4 (rX4_allThatFits a0 a1 a2)) - (rJ6_bitCount_0f7a4 ((rX4_allThatFits a0 a1 a2) &&& (((1 : Int32) <<< ((nI k18) &&& 31)) - (1 : Int32))))) else (rJ6_bitCount_0f7a4 ((rX4_allThatFits a0 a1 a2) &&& (((1 : Int32) <<< ((nI k18) &&& 31)) - (1 : Int32)))))), (7, .int (if (rJ6_bitCount_0f7a4 ((rX4_allThatFits a0 a1 a2) &&& (((1 : Int32) <<< ((nI k18) &&& 31)) - (1 : Int32)))) < ((rJ6_bitCount_0f7a4 (rX4_allThatFits a0 a1 a2)) - (rJ6_bitCount_0f7a4 ((rX4_allThatFits a0 a1 a2) &&& (((1 : Int32) <<< ((nI k18) &&& 31)) - (1 : Int32))))) then ((rJ6_bitCount_0f7a4 (rX4_allThatFits a0 a1 a2)) - (rJ6_bitCount_0f7a4 ((rX4_allThatFits a0 a1 a2) &&& (((1 : Int32) <<< ((nI k18) &&& 31)) - (1 : Int32))))) else (rJ6_bitCount_0f7a4 ((rX4_allThatFits a0 a1 a2) &&& (((1 : Int32) <<< ((nI k18) &&& 31)) - (1 : Int32)))))), (6, .int (rJ6_bitCount_0f7a4 ((rX4_allThatFits a0 a1 a2) &&& (((1 : Int32) <<< ((nI k18) &&& 31)) - (1 : Int32))))), (0, .ref (ad 0)), (1, .int (rX4_allThatFits a0 a1 a2)), (2, .int (rJ6_bitCount_0f7a4 (rX4_allThatFits a0 a1 a2))), (3, .int ((aX4_bestDepth_18 a0 a1 a2 k18).1)), (5, .int (nI k18))]) dX4_bestDepth_58 (by decide) rfl ?_
          refine s_iload X (pc := 60) (x := nI k18) 7 dX4_bestDepth_60 rfl ?_
          refine s_istore_n X (pc := 62) (i := 3) (lv2 := [(3, .int (nI k18)), (4, .int (if (rJ6_bitCount_0f7a4 ((rX4_allThatFits a0 a1 a2) &&& (((1 : Int32) <<< ((nI k18) &&& 31)) - (1 : Int32)))) < ((rJ6_bitCount_0f7a4 (rX4_allThatFits a0 a1 a2)) - (rJ6_bitCount_0f7a4 ((rX4_allThatFits a0 a1 a2) &&& (((1 : Int32) <<< ((nI k18) &&& 31)) - (1 : Int32))))) then ((rJ6_bitCount_0f7a4 (rX4_allThatFits a0 a1 a2)) - (rJ6_bitCount_0f7a4 ((rX4_allThatFits a0 a1 a2) &&& (((1 : Int32) <<< ((nI k18) &&& 31)) - (1 : Int32))))) else (rJ6_bitCount_0f7a4 ((rX4_allThatFits a0 a1 a2) &&& (((1 : Int32) <<< ((nI k18) &&& 31)) - (1 : Int32)))))), (7, .int (if (rJ6_bitCount_0f7a4 ((rX4_allThatFits a0 a1 a2) &&& (((1 : Int32) <<< ((nI k18) &&& 31)) - (1 : Int32)))) < ((rJ6_bitCount_0f7a4 (rX4_allThatFits a0 a1 a2)) - (rJ6_bitCount_0f7a4 ((rX4_allThatFits a0 a1 a2) &&& (((1 : Int32) <<< ((nI k18) &&& 31)) - (1 : Int32))))) then ((rJ6_bitCount_0f7a4 (rX4_allThatFits a0 a1 a2)) - (rJ6_bitCount_0f7a4 ((rX4_allThatFits a0 a1 a2) &&& (((1 : Int32) <<< ((nI k18) &&& 31)) - (1 : Int32))))) else (rJ6_bitCount_0f7a4 ((rX4_allThatFits a0 a1 a2) &&& (((1 : Int32) <<< ((nI k18) &&& 31)) - (1 : Int32)))))), (6, .int (rJ6_bitCount_0f7a4 ((rX4_allThatFits a0 a1 a2) &&& (((1 : Int32) <<< ((nI k18) &&& 31)) - (1 : Int32))))), (0, .ref (ad 0)), (1, .int (rX4_allThatFits a0 a1 a2)), (2, .int (rJ6_bitCount_0f7a4 (rX4_allThatFits a0 a1 a2))), (5, .int (nI k18))]) dX4_bestDepth_62 rfl (by decide) rfl ?_
          refine s_iinc X (pc := 63) (v := nI (k18 + 1)) (lv2 := [(5, .int (nI (k18 + 1))), (3, .int (nI k18)), (4, .int (if (rJ6_bitCount_0f7a4 ((rX4_allThatFits a0 a1 a2) &&& (((1 : Int32) <<< ((nI k18) &&& 31)) - (1 : Int32)))) < ((rJ6_bitCount_0f7a4 (rX4_allThatFits a0 a1 a2)) - (rJ6_bitCount_0f7a4 ((rX4_allThatFits a0 a1 a2) &&& (((1 : Int32) <<< ((nI k18) &&& 31)) - (1 : Int32))))) then ((rJ6_bitCount_0f7a4 (rX4_allThatFits a0 a1 a2)) - (rJ6_bitCount_0f7a4 ((rX4_allThatFits a0 a1 a2) &&& (((1 : Int32) <<< ((nI k18) &&& 31)) - (1 : Int32))))) else (rJ6_bitCount_0f7a4 ((rX4_allThatFits a0 a1 a2) &&& (((1 : Int32) <<< ((nI k18) &&& 31)) - (1 : Int32)))))), (7, .int (if (rJ6_bitCount_0f7a4 ((rX4_allThatFits a0 a1 a2) &&& (((1 : Int32) <<< ((nI k18) &&& 31)) - (1 : Int32)))) < ((rJ6_bitCount_0f7a4 (rX4_allThatFits a0 a1 a2)) - (rJ6_bitCount_0f7a4 ((rX4_allThatFits a0 a1 a2) &&& (((1 : Int32) <<< ((nI k18) &&& 31)) - (1 : Int32))))) then ((rJ6_bitCount_0f7a4 (rX4_allThatFits a0 a1 a2)) - (rJ6_bitCount_0f7a4 ((rX4_allThatFits a0 a1 a2) &&& (((1 : Int32) <<< ((nI k18) &&& 31)) - (1 : Int32))))) else (rJ6_bitCount_0f7a4 ((rX4_allThatFits a0 a1 a2) &&& (((1 : Int32) <<< ((nI k18) &&& 31)) - (1 : Int32)))))), (6, .int (rJ6_bitCount_0f7a4 ((rX4_allThatFits a0 a1 a2) &&& (((1 : Int32) <<< ((nI k18) &&& 31)) - (1 : Int32))))), (0, .ref (ad 0)), (1, .int (rX4_allThatFits a0 a1 a2)), (2, .int (rJ6_bitCount_0f7a4 (rX4_allThatFits a0 a1 a2)))]) 7 dX4_bestDepth_63 rfl (nI_1 _) (by decide) rfl ?_
          refine s_goto X (pc := 66) (tgt := 18) dX4_bestDepth_66 (by decide) ?_
          refine s_perm (lv2 := [(0, .ref (ad 0)), (1, .int (rX4_allThatFits a0 a1 a2)), (2, .int (rJ6_bitCount_0f7a4 (rX4_allThatFits a0 a1 a2))), (3, .int (nI k18)), (4, .int (if (rJ6_bitCount_0f7a4 ((rX4_allThatFits a0 a1 a2) &&& (((1 : Int32) <<< ((nI k18) &&& 31)) - (1 : Int32)))) < ((rJ6_bitCount_0f7a4 (rX4_allThatFits a0 a1 a2)) - (rJ6_bitCount_0f7a4 ((rX4_allThatFits a0 a1 a2) &&& (((1 : Int32) <<< ((nI k18) &&& 31)) - (1 : Int32))))) then ((rJ6_bitCount_0f7a4 (rX4_allThatFits a0 a1 a2)) - (rJ6_bitCount_0f7a4 ((rX4_allThatFits a0 a1 a2) &&& (((1 : Int32) <<< ((nI k18) &&& 31)) - (1 : Int32))))) else (rJ6_bitCount_0f7a4 ((rX4_allThatFits a0 a1 a2) &&& (((1 : Int32) <<< ((nI k18) &&& 31)) - (1 : Int32)))))), (5, .int (nI (k18 + 1)))]) [5, 6, 7, 1, 2, 0] rfl ?_
          have hb18 : (aX4_bestDepth_18 a0 a1 a2 (k18 + 1)) = (nI k18, if (rJ6_bitCount_0f7a4 ((rX4_allThatFits a0 a1 a2) &&& (((1 : Int32) <<< ((nI k18) &&& 31)) - (1 : Int32)))) < ((rJ6_bitCount_0f7a4 (rX4_allThatFits a0 a1 a2)) - (rJ6_bitCount_0f7a4 ((rX4_allThatFits a0 a1 a2) &&& (((1 : Int32) <<< ((nI k18) &&& 31)) - (1 : Int32))))) then ((rJ6_bitCount_0f7a4 (rX4_allThatFits a0 a1 a2)) - (rJ6_bitCount_0f7a4 ((rX4_allThatFits a0 a1 a2) &&& (((1 : Int32) <<< ((nI k18) &&& 31)) - (1 : Int32))))) else (rJ6_bitCount_0f7a4 ((rX4_allThatFits a0 a1 a2) &&& (((1 : Int32) <<< ((nI k18) &&& 31)) - (1 : Int32))))) := by rw [aX4_bestDepth_18]; exact (if_neg c53)
          refine s_cast (lv2 := [(0, .ref (ad 0)), (1, .int (rX4_allThatFits a0 a1 a2)), (2, .int (rJ6_bitCount_0f7a4 (rX4_allThatFits a0 a1 a2))), (3, .int ((aX4_bestDepth_18 a0 a1 a2 (k18 + 1)).1)), (4, .int ((aX4_bestDepth_18 a0 a1 a2 (k18 + 1)).2)), (5, .int (nI (k18 + 1)))]) (w2 := wX4 G ad a0 a1 a2) (by first | (rw [hb18]; done) | rfl) (by first | (rw [hb18]; done) | rfl) ?_
          exact ih18 (k18 + 1) (by omega)
  exact L18 11 0 (Nat.zero_add _)
