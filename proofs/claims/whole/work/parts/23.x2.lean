theorem iX2_begin_X2 : ∀ z ∈ wsX20, z ∈ wsX2_begin := fun z h => List.mem_cons_of_mem _ (List.mem_append_right _ h)
theorem kX2_begin_33 : Cond.fieldLink RX2 33 "BathingCourt$Day" (TX2 5).2.1 (TX2 5).2.2.1 ∈ wsX2_begin := List.mem_of_getElem? (i := 1) rfl
theorem kX2_begin_9 : Cond.fieldLink RX2 9 "BathingCourt$Day" (TX2 0).2.1 (TX2 0).2.2.1 ∈ wsX2_begin := List.mem_of_getElem? (i := 2) rfl
theorem kX2_begin_15 : Cond.fieldLink RX2 15 "BathingCourt$Day" (TX2 1).2.1 (TX2 1).2.2.1 ∈ wsX2_begin := List.mem_of_getElem? (i := 3) rfl
theorem kX2_begin_18 : Cond.fieldLink RX2 18 "BathingCourt$Day" (TX2 2).2.1 (TX2 2).2.2.1 ∈ wsX2_begin := List.mem_of_getElem? (i := 4) rfl
theorem kX2_begin_21 : Cond.fieldLink RX2 21 "BathingCourt$Day" (TX2 3).2.1 (TX2 3).2.2.1 ∈ wsX2_begin := List.mem_of_getElem? (i := 5) rfl
theorem kX2_begin_24 : Cond.fieldLink RX2 24 "BathingCourt$Day" (TX2 4).2.1 (TX2 4).2.2.1 ∈ wsX2_begin := List.mem_of_getElem? (i := 6) rfl
def sX2_begin_0 (a0 : Nat → Int32) : Nat → Int32 := sJ7_fill_53178_free_a 4 a0 (0 : Int32)
def sX2_begin_1 (a1 : Nat → Int32) : Nat → Int32 := sJ7_fill_53178_free_a 4 a1 (-1 : Int32)
def sX2_begin_2 (a2 : Nat → Int32) : Nat → Int32 := sJ7_fill_53178_free_a 4 a2 (0 : Int32)
def sX2_begin_3 (a3 : Nat → Int32) : Nat → Int32 := sJ7_fill_53178_free_a 5 a3 (0 : Int32)
def sX2_begin_4 (a4 : Nat → Int32) : Nat → Int32 := sJ7_fill_53178_free_a 5 a4 (0 : Int32)
def sX2_begin_5 : Int32 := (0 : Int32)
set_option maxRecDepth 100000 in
set_option maxHeartbeats 4000000 in
theorem c_X2_begin (l : Launch) (G : GT) (ad : Nat → Nat) (a0 a1 a2 a3 a4 : Nat → Int32) (a5 : Int32) : Cv l G yX2_begin wsX2_begin (rmL 1) [.ref (ad 0)] (wX2 G ad a0 a1 a2 a3 a4 a5) (wX2 G ad (sX2_begin_0 a0) (sX2_begin_1 a1) (sX2_begin_2 a2) (sX2_begin_3 a3) (sX2_begin_4 a4) sX2_begin_5) := by
  refine cv_start (by decide) rfl rfl (Nat.le_of_ble_eq_true rfl) ?_
  intro p e s m args below meth c A X
  refine s_perm (lv2 := [(0, .ref (ad 0))]) [0] rfl ?_
  refine s_aload_n X (pc := 0) (x := (ad 0)) 0 dX2_begin_0 rfl ?_
  refine s_iconst X (pc := 1) (v := 0) dX2_begin_1 (by decide) ?_
  refine s_put X (pc := 2) (v := .int (0 : Int32)) (w2 := wX2 G ad a0 a1 a2 a3 a4 (0 : Int32)) iX2_begin_X2 0 rfl rfl 5 (by decide) kX2_begin_33 rfl tyX2 tyX2_ok nmX2 rfl (ty := .int) (by decide +kernel) rfl rfl (Nat.le_of_ble_eq_true rfl) rfl dX2_begin_2 ?_
  refine s_aload_n X (pc := 5) (x := (ad 0)) 0 dX2_begin_5 rfl ?_
  refine s_get X (pc := 6) (v := .ref (ad 1)) iX2_begin_X2 0 rfl rfl 0 (by decide) kX2_begin_9 rfl rfl dX2_begin_6 ?_
  refine s_iconst X (pc := 9) (v := 0) dX2_begin_9 (by decide) ?_
  refine s_callSv X (pc := 10) (w := wX2 G ad a0 a1 a2 a3 a4 (0 : Int32)) (n := 2) (st := []) (As := [.ref (ad 1), .int (0 : Int32)]) (w2 := wX2 G ad (sJ7_fill_53178_free_a 4 a0 (0 : Int32)) a1 a2 a3 a4 (0 : Int32)) 0 (c_J7_fill_53178 l G (ad 1) 4 a0 (0 : Int32) (by decide)) gX2_begin_J7_fill_53178 rfl (by decide +kernel) ⟨Nat.le_of_ble_eq_true rfl, Nat.le_of_ble_eq_true rfl⟩ [1] rfl rfl rfl rfl [ad 0, ad 1, ad 2, ad 3, ad 4, ad 5] rfl rfl rfl rfl (Nat.le_of_ble_eq_true rfl) (Nat.zero_le _) (Nat.zero_le _) dX2_begin_10 ?_
  refine s_aload_n X (pc := 13) (x := (ad 0)) 0 dX2_begin_13 rfl ?_
  refine s_get X (pc := 14) (v := .ref (ad 2)) iX2_begin_X2 0 rfl rfl 1 (by decide) kX2_begin_15 rfl rfl dX2_begin_14 ?_
  refine s_iconst X (pc := 17) (v := -1) dX2_begin_17 (by decide) ?_
  refine s_callSv X (pc := 18) (w := wX2 G ad (sJ7_fill_53178_free_a 4 a0 (0 : Int32)) a1 a2 a3 a4 (0 : Int32)) (n := 2) (st := []) (As := [.ref (ad 2), .int (-1 : Int32)]) (w2 := wX2 G ad (sJ7_fill_53178_free_a 4 a0 (0 : Int32)) (sJ7_fill_53178_free_a 4 a1 (-1 : Int32)) a2 a3 a4 (0 : Int32)) 0 (c_J7_fill_53178 l G (ad 2) 4 a1 (-1 : Int32) (by decide)) gX2_begin_J7_fill_53178 rfl (by decide +kernel) ⟨Nat.le_of_ble_eq_true rfl, Nat.le_of_ble_eq_true rfl⟩ [2] rfl rfl rfl rfl [ad 0, ad 1, ad 2, ad 3, ad 4, ad 5] rfl rfl rfl rfl (Nat.le_of_ble_eq_true rfl) (Nat.zero_le _) (Nat.zero_le _) dX2_begin_18 ?_
  refine s_aload_n X (pc := 21) (x := (ad 0)) 0 dX2_begin_21 rfl ?_
  refine s_get X (pc := 22) (v := .ref (ad 3)) iX2_begin_X2 0 rfl rfl 2 (by decide) kX2_begin_18 rfl rfl dX2_begin_22 ?_
  refine s_iconst X (pc := 25) (v := 0) dX2_begin_25 (by decide) ?_
  refine s_callSv X (pc := 26) (w := wX2 G ad (sJ7_fill_53178_free_a 4 a0 (0 : Int32)) (sJ7_fill_53178_free_a 4 a1 (-1 : Int32)) a2 a3 a4 (0 : Int32)) (n := 2) (st := []) (As := [.ref (ad 3), .int (0 : Int32)]) (w2 := wX2 G ad (sJ7_fill_53178_free_a 4 a0 (0 : Int32)) (sJ7_fill_53178_free_a 4 a1 (-1 : Int32)) (sJ7_fill_53178_free_a 4 a2 (0 : Int32)) a3 a4 (0 : Int32)) 0 (c_J7_fill_53178 l G (ad 3) 4 a2 (0 : Int32) (by decide)) gX2_begin_J7_fill_53178 rfl (by decide +kernel) ⟨Nat.le_of_ble_eq_true rfl, Nat.le_of_ble_eq_true rfl⟩ [3] rfl rfl rfl rfl [ad 0, ad 1, ad 2, ad 3, ad 4, ad 5] rfl rfl rfl rfl (Nat.le_of_ble_eq_true rfl) (Nat.zero_le _) (Nat.zero_le _) dX2_begin_26 ?_
  refine s_aload_n X (pc := 29) (x := (ad 0)) 0 dX2_begin_29 rfl ?_
  refine s_get X (pc := 30) (v := .ref (ad 4)) iX2_begin_X2 0 rfl rfl 3 (by decide) kX2_begin_21 rfl rfl dX2_begin_30 ?_
  refine s_iconst X (pc := 33) (v := 0) dX2_begin_33 (by decide) ?_
  refine s_callSv X (pc := 34) (w := wX2 G ad (sJ7_fill_53178_free_a 4 a0 (0 : Int32)) (sJ7_fill_53178_free_a 4 a1 (-1 : Int32)) (sJ7_fill_53178_free_a 4 a2 (0 : Int32)) a3 a4 (0 : Int32)) (n := 2) (st := []) (As := [.ref (ad 4), .int (0 : Int32)]) (w2 := wX2 G ad (sJ7_fill_53178_free_a 4 a0 (0 : Int32)) (sJ7_fill_53178_free_a 4 a1 (-1 : Int32)) (sJ7_fill_53178_free_a 4 a2 (0 : Int32)) (sJ7_fill_53178_free_a 5 a3 (0 : Int32)) a4 (0 : Int32)) 0 (c_J7_fill_53178 l G (ad 4) 5 a3 (0 : Int32) (by decide)) gX2_begin_J7_fill_53178 rfl (by decide +kernel) ⟨Nat.le_of_ble_eq_true rfl, Nat.le_of_ble_eq_true rfl⟩ [4] rfl rfl rfl rfl [ad 0, ad 1, ad 2, ad 3, ad 4, ad 5] rfl rfl rfl rfl (Nat.le_of_ble_eq_true rfl) (Nat.zero_le _) (Nat.zero_le _) dX2_begin_34 ?_
  refine s_aload_n X (pc := 37) (x := (ad 0)) 0 dX2_begin_37 rfl ?_
  refine s_get X (pc := 38) (v := .ref (ad 5)) iX2_begin_X2 0 rfl rfl 4 (by decide) kX2_begin_24 rfl rfl dX2_begin_38 ?_
  refine s_iconst X (pc := 41) (v := 0) dX2_begin_41 (by decide) ?_
  refine s_callSv X (pc := 42) (w := wX2 G ad (sJ7_fill_53178_free_a 4 a0 (0 : Int32)) (sJ7_fill_53178_free_a 4 a1 (-1 : Int32)) (sJ7_fill_53178_free_a 4 a2 (0 : Int32)) (sJ7_fill_53178_free_a 5 a3 (0 : Int32)) a4 (0 : Int32)) (n := 2) (st := []) (As := [.ref (ad 5), .int (0 : Int32)]) (w2 := wX2 G ad (sJ7_fill_53178_free_a 4 a0 (0 : Int32)) (sJ7_fill_53178_free_a 4 a1 (-1 : Int32)) (sJ7_fill_53178_free_a 4 a2 (0 : Int32)) (sJ7_fill_53178_free_a 5 a3 (0 : Int32)) (sJ7_fill_53178_free_a 5 a4 (0 : Int32)) (0 : Int32)) 0 (c_J7_fill_53178 l G (ad 5) 5 a4 (0 : Int32) (by decide)) gX2_begin_J7_fill_53178 rfl (by decide +kernel) ⟨Nat.le_of_ble_eq_true rfl, Nat.le_of_ble_eq_true rfl⟩ [5] rfl rfl rfl rfl [ad 0, ad 1, ad 2, ad 3, ad 4, ad 5] rfl rfl rfl rfl (Nat.le_of_ble_eq_true rfl) (Nat.zero_le _) (Nat.zero_le _) dX2_begin_42 ?_
  exact s_vret X (pc := 45) dX2_begin_45 (by rw [show sX2_begin_0 a0 = sJ7_fill_53178_free_a 4 a0 (0 : Int32) from rfl, show sX2_begin_1 a1 = sJ7_fill_53178_free_a 4 a1 (-1 : Int32) from rfl, show sX2_begin_2 a2 = sJ7_fill_53178_free_a 4 a2 (0 : Int32) from rfl, show sX2_begin_3 a3 = sJ7_fill_53178_free_a 5 a3 (0 : Int32) from rfl, show sX2_begin_4 a4 = sJ7_fill_53178_free_a 5 a4 (0 : Int32) from rfl, show sX2_begin_5 = (0 : Int32) from rfl])

theorem iX2_setOf_X2 : ∀ z ∈ wsX20, z ∈ wsX2_setOf := fun z h => List.mem_cons_of_mem _ (List.mem_append_right _ h)
theorem kX2_setOf_21 : Cond.fieldLink RX2 21 "BathingCourt$Day" (TX2 3).2.1 (TX2 3).2.2.1 ∈ wsX2_setOf := List.mem_of_getElem? (i := 1) rfl
def aX2_setOf_5 (a3 : Nat → Int32) (p0 : Int32) : Nat → Int32
  | 0 => (0 : Int32)
  | k5 + 1 => if (a3 (nI k5).toNatClampNeg) = p0 then ((aX2_setOf_5 a3 p0 k5) ||| ((1 : Int32) <<< ((nI k5) &&& 31))) else (aX2_setOf_5 a3 p0 k5)
def rX2_setOf (a3 : Nat → Int32) (p0 p1 : Int32) : Int32 := (aX2_setOf_5 a3 p0 p1.toNatClampNeg)
set_option maxRecDepth 100000 in
set_option maxHeartbeats 4000000 in
theorem c_X2_setOf (l : Launch) (G : GT) (ad : Nat → Nat) (a0 a1 a2 a3 a4 : Nat → Int32) (a5 p0 p1 : Int32) (h0 : 0 ≤ p1) (h1 : p1 ≤ 5) : Ci l G yX2_setOf wsX2_setOf (rmL 0) [.ref (ad 0), .int p0, .int p1] (wX2 G ad a0 a1 a2 a3 a4 a5) (rX2_setOf a3 p0 p1) (wX2 G ad a0 a1 a2 a3 a4 a5) := by
  refine ci_start .int (by decide) rfl rfl (Nat.le_of_ble_eq_true rfl) ?_
  intro p e s m args below meth c A X
  have e2 := clampInt h0
  have hN := clampLe (n := 5) (b := 5) rfl h0 h1
  refine s_perm (lv2 := [(0, .ref (ad 0)), (1, .int p0), (2, .int p1)]) [0, 1, 2] rfl ?_
  refine s_iconst X (pc := 0) (v := 0) dX2_setOf_0 (by decide) ?_
  refine s_istore_n X (pc := 1) (i := 3) (lv2 := [(3, .int (0 : Int32)), (0, .ref (ad 0)), (1, .int p0), (2, .int p1)]) dX2_setOf_1 rfl (by decide) rfl ?_
  refine s_iconst X (pc := 2) (v := 0) dX2_setOf_2 (by decide) ?_
  refine s_istore X (pc := 3) (i := 4) (lv2 := [(4, .int (0 : Int32)), (3, .int (0 : Int32)), (0, .ref (ad 0)), (1, .int p0), (2, .int p1)]) dX2_setOf_3 (by decide) rfl ?_
  refine s_perm (lv2 := [(0, .ref (ad 0)), (1, .int p0), (2, .int p1), (3, .int (0 : Int32)), (4, .int (0 : Int32))]) [2, 3, 4, 1, 0] rfl ?_
  have L5 : ∀ (n5 k5 : Nat), k5 + n5 = p1.toNatClampNeg → Sm p l e (rmL 0) s m args below meth c G A 5 0 0 (Qci below G A args s (rX2_setOf a3 p0 p1) (wX2 G ad a0 a1 a2 a3 a4 a5)) 5 [(0, .ref (ad 0)), (1, .int p0), (2, .int p1), (3, .int (aX2_setOf_5 a3 p0 k5)), (4, .int (nI k5))] [] (wX2 G ad a0 a1 a2 a3 a4 a5) := by
    intro n5
    induction n5 with
    | zero =>
      intro k5 hk5
      have hK5 : k5 = p1.toNatClampNeg := by omega
      rw [hK5]
      have tk5 : (nI p1.toNatClampNeg).toInt = ((p1.toNatClampNeg : Nat) : Int) := nI_toInt (by omega)
      have eN5 : (p1).toInt = ((p1.toNatClampNeg : Nat) : Int) := e2
      refine s_iload X (pc := 5) (x := nI p1.toNatClampNeg) 4 dX2_setOf_5 rfl ?_
      refine s_iload_n X (pc := 7) (x := p1) 2 dX2_setOf_7 rfl ?_
      refine s_icmp_ge X (pc := 8) (tgt := 41) dX2_setOf_8 (by decide) (fun c8 => ?_) (fun c8 => ?_)
      ·
        refine s_iload_n X (pc := 41) (x := (aX2_setOf_5 a3 p0 p1.toNatClampNeg)) 3 dX2_setOf_41 rfl ?_
        exact s_iret X (pc := 42) (v := (aX2_setOf_5 a3 p0 p1.toNatClampNeg)) dX2_setOf_42 rfl rfl
      ·
        exact absurd ((t_le eN5 tk5).mpr (by omega)) c8
    | succ n5 ih5 =>
      intro k5 hk5
      have hlt5 : k5 < p1.toNatClampNeg := by omega
      have tk5 : (nI k5).toInt = ((k5 : Nat) : Int) := nI_toInt (by omega)
      have eN5 : (p1).toInt = ((p1.toNatClampNeg : Nat) : Int) := e2
      refine s_iload X (pc := 5) (x := nI k5) 4 dX2_setOf_5 rfl ?_
      refine s_iload_n X (pc := 7) (x := p1) 2 dX2_setOf_7 rfl ?_
      refine s_icmp_ge X (pc := 8) (tgt := 41) dX2_setOf_8 (by decide) (fun c8 => ?_) (fun c8 => ?_)
      ·
        exact absurd ((t_le eN5 tk5).mp c8) (by omega)
      ·
        refine s_iload X (pc := 11) (x := nI k5) 4 dX2_setOf_11 rfl ?_
        refine s_iconst X (pc := 13) (v := 5) dX2_setOf_13 (by decide) ?_
        refine s_icmp_ge X (pc := 14) (tgt := 41) dX2_setOf_14 (by decide) (fun c14 => ?_) (fun c14 => ?_)
        ·
          exact absurd ((t_le (x := 5) rfl tk5).mp c14) (by omega)
        ·
          refine s_aload_n X (pc := 17) (x := (ad 0)) 0 dX2_setOf_17 rfl ?_
          refine s_get X (pc := 18) (v := .ref (ad 4)) iX2_setOf_X2 0 rfl rfl 3 (by decide) kX2_setOf_21 rfl rfl dX2_setOf_18 ?_
          refine s_iload X (pc := 21) (x := nI k5) 4 dX2_setOf_21 rfl ?_
          refine s_iald X (pc := 23) (n := 5) (f := a3) 4 rfl (vp_in_nI (by omega) (by decide)) dX2_setOf_23 ?_
          refine s_iload_n X (pc := 24) (x := p0) 1 dX2_setOf_24 rfl ?_
          refine s_icmp_ne X (pc := 25) (tgt := 35) dX2_setOf_25 (by decide) (fun c25 => ?_) (fun c25 => ?_)
          ·
            refine s_iinc X (pc := 35) (v := nI (k5 + 1)) (lv2 := [(4, .int (nI (k5 + 1))), (0, .ref (ad 0)), (1, .int p0), (2, .int p1), (3, .int (aX2_setOf_5 a3 p0 k5))]) 4 dX2_setOf_35 rfl (nI_1 _) (by decide) rfl ?_
            refine s_goto X (pc := 38) (tgt := 5) dX2_setOf_38 (by decide) ?_
            refine s_perm (lv2 := [(0, .ref (ad 0)), (1, .int p0), (2, .int p1), (3, .int (aX2_setOf_5 a3 p0 k5)), (4, .int (nI (k5 + 1)))]) [1, 2, 3, 4, 0] rfl ?_
            have hb5 : (aX2_setOf_5 a3 p0 (k5 + 1)) = (aX2_setOf_5 a3 p0 k5) := by rw [aX2_setOf_5]; exact (if_neg c25)
            refine s_cast (lv2 := [(0, .ref (ad 0)), (1, .int p0), (2, .int p1), (3, .int (aX2_setOf_5 a3 p0 (k5 + 1))), (4, .int (nI (k5 + 1)))]) (w2 := wX2 G ad a0 a1 a2 a3 a4 a5) (by first | (rw [hb5]; done) | rfl) (by first | (rw [hb5]; done) | rfl) ?_
            exact ih5 (k5 + 1) (by omega)
          ·
            refine s_iload_n X (pc := 28) (x := (aX2_setOf_5 a3 p0 k5)) 3 dX2_setOf_28 rfl ?_
            refine s_iconst X (pc := 29) (v := 1) dX2_setOf_29 (by decide) ?_
            refine s_iload X (pc := 30) (x := nI k5) 4 dX2_setOf_30 rfl ?_
            refine s_ishl X (pc := 32) dX2_setOf_32 ?_
            refine s_ior X (pc := 33) dX2_setOf_33 ?_
            refine s_istore_n X (pc := 34) (i := 3) (lv2 := [(3, .int ((aX2_setOf_5 a3 p0 k5) ||| ((1 : Int32) <<< ((nI k5) &&& 31)))), (0, .ref (ad 0)), (1, .int p0), (2, .int p1), (4, .int (nI k5))]) dX2_setOf_34 rfl (by decide) rfl ?_
            refine s_iinc X (pc := 35) (v := nI (k5 + 1)) (lv2 := [(4, .int (nI (k5 + 1))), (3, .int ((aX2_setOf_5 a3 p0 k5) ||| ((1 : Int32) <<< ((nI k5) &&& 31)))), (0, .ref (ad 0)), (1, .int p0), (2, .int p1)]) 4 dX2_setOf_35 rfl (nI_1 _) (by decide) rfl ?_
            refine s_goto X (pc := 38) (tgt := 5) dX2_setOf_38 (by decide) ?_
            refine s_perm (lv2 := [(0, .ref (ad 0)), (1, .int p0), (2, .int p1), (3, .int ((aX2_setOf_5 a3 p0 k5) ||| ((1 : Int32) <<< ((nI k5) &&& 31)))), (4, .int (nI (k5 + 1)))]) [2, 3, 4, 1, 0] rfl ?_
            have hb5 : (aX2_setOf_5 a3 p0 (k5 + 1)) = (aX2_setOf_5 a3 p0 k5) ||| ((1 : Int32) <<< ((nI k5) &&& 31)) := by rw [aX2_setOf_5]; exact (if_pos c25)
            refine s_cast (lv2 := [(0, .ref (ad 0)), (1, .int p0), (2, .int p1), (3, .int (aX2_setOf_5 a3 p0 (k5 + 1))), (4, .int (nI (k5 + 1)))]) (w2 := wX2 G ad a0 a1 a2 a3 a4 a5) (by first | (rw [hb5]; done) | rfl) (by first | (rw [hb5]; done) | rfl) ?_
            exact ih5 (k5 + 1) (by omega)
  exact L5 p1.toNatClampNeg 0 (Nat.zero_add _)

theorem iX2_canEnter_X2 : ∀ z ∈ wsX20, z ∈ wsX2_canEnter := fun z h => List.mem_cons_of_mem _ (List.mem_append_right _ h)
theorem kX2_canEnter_21 : Cond.fieldLink RX2 21 "BathingCourt$Day" (TX2 3).2.1 (TX2 3).2.2.1 ∈ wsX2_canEnter := List.mem_of_getElem? (i := 1) rfl
theorem kX2_canEnter_15 : Cond.fieldLink RX2 15 "BathingCourt$Day" (TX2 1).2.1 (TX2 1).2.2.1 ∈ wsX2_canEnter := List.mem_of_getElem? (i := 2) rfl
theorem kX2_canEnter_9 : Cond.fieldLink RX2 9 "BathingCourt$Day" (TX2 0).2.1 (TX2 0).2.2.1 ∈ wsX2_canEnter := List.mem_of_getElem? (i := 3) rfl
def rX2_canEnter (a0 a1 a3 : Nat → Int32) (p0 p1 : Int32) : Int32 := if (a3 p0.toNatClampNeg) = 0 then (if (a1 p1.toNatClampNeg) = (-1 : Int32) then (if (a0 p1.toNatClampNeg) = 0 then (1 : Int32) else (0 : Int32)) else (0 : Int32)) else (0 : Int32)
set_option maxRecDepth 100000 in
set_option maxHeartbeats 4000000 in
theorem c_X2_canEnter (l : Launch) (G : GT) (ad : Nat → Nat) (a0 a1 a2 a3 a4 : Nat → Int32) (a5 p0 p1 : Int32) (hc : vp_in p0 5) (hh : vp_in p1 4) : Ci l G yX2_canEnter wsX2_canEnter (rmL 0) [.ref (ad 0), .int p0, .int p1] (wX2 G ad a0 a1 a2 a3 a4 a5) (rX2_canEnter a0 a1 a3 p0 p1) (wX2 G ad a0 a1 a2 a3 a4 a5) := by
  refine ci_start .boolean (by decide) rfl rfl (Nat.le_of_ble_eq_true rfl) ?_
  intro p e s m args below meth c A X
  refine s_perm (lv2 := [(0, .ref (ad 0)), (1, .int p0), (2, .int p1)]) [0, 1, 2] rfl ?_
  refine s_aload_n X (pc := 0) (x := (ad 0)) 0 dX2_canEnter_0 rfl ?_
  refine s_get X (pc := 1) (v := .ref (ad 4)) iX2_canEnter_X2 0 rfl rfl 3 (by decide) kX2_canEnter_21 rfl rfl dX2_canEnter_1 ?_
  refine s_iload_n X (pc := 4) (x := p0) 1 dX2_canEnter_4 rfl ?_
  refine s_iald X (pc := 5) (n := 5) (f := a3) 4 rfl (by first | with_reducible assumption | exact vin (b := 5) rfl (by grind) (by grind)) dX2_canEnter_5 ?_
  refine s_if_ne X (pc := 6) (tgt := 32) dX2_canEnter_6 (by decide) (fun c6 => ?_) (fun c6 => ?_)
  ·
    refine s_iconst X (pc := 32) (v := 0) dX2_canEnter_32 (by decide) ?_
    exact s_zret X (pc := 33) (v := (0 : Int32)) (Or.inl rfl) dX2_canEnter_33 (Eq.symm (show rX2_canEnter a0 a1 a3 p0 p1 = (0 : Int32) from (by unfold rX2_canEnter; exact (if_neg c6)))) rfl
  ·
    refine s_aload_n X (pc := 9) (x := (ad 0)) 0 dX2_canEnter_9 rfl ?_
    refine s_get X (pc := 10) (v := .ref (ad 2)) iX2_canEnter_X2 0 rfl rfl 1 (by decide) kX2_canEnter_15 rfl rfl dX2_canEnter_10 ?_
    refine s_iload_n X (pc := 13) (x := p1) 2 dX2_canEnter_13 rfl ?_
    refine s_iald X (pc := 14) (n := 4) (f := a1) 2 rfl (by first | with_reducible assumption | exact vin (b := 4) rfl (by grind) (by grind)) dX2_canEnter_14 ?_
    refine s_iconst X (pc := 15) (v := -1) dX2_canEnter_15 (by decide) ?_
    refine s_icmp_ne X (pc := 16) (tgt := 32) dX2_canEnter_16 (by decide) (fun c16 => ?_) (fun c16 => ?_)
    ·
      refine s_iconst X (pc := 32) (v := 0) dX2_canEnter_32 (by decide) ?_
      exact s_zret X (pc := 33) (v := (0 : Int32)) (Or.inl rfl) dX2_canEnter_33 (Eq.symm (show rX2_canEnter a0 a1 a3 p0 p1 = (0 : Int32) from (by unfold rX2_canEnter; exact ((if_pos c6).trans (if_neg c16))))) rfl
    ·
      refine s_aload_n X (pc := 19) (x := (ad 0)) 0 dX2_canEnter_19 rfl ?_
      refine s_get X (pc := 20) (v := .ref (ad 1)) iX2_canEnter_X2 0 rfl rfl 0 (by decide) kX2_canEnter_9 rfl rfl dX2_canEnter_20 ?_
      refine s_iload_n X (pc := 23) (x := p1) 2 dX2_canEnter_23 rfl ?_
      refine s_iald X (pc := 24) (n := 4) (f := a0) 1 rfl (by first | with_reducible assumption | exact vin (b := 4) rfl (by grind) (by grind)) dX2_canEnter_24 ?_
      refine s_if_ne X (pc := 25) (tgt := 32) dX2_canEnter_25 (by decide) (fun c25 => ?_) (fun c25 => ?_)
      ·
        refine s_iconst X (pc := 32) (v := 0) dX2_canEnter_32 (by decide) ?_
        exact s_zret X (pc := 33) (v := (0 : Int32)) (Or.inl rfl) dX2_canEnter_33 (Eq.symm (show rX2_canEnter a0 a1 a3 p0 p1 = (0 : Int32) from (by unfold rX2_canEnter; exact ((if_pos c6).trans ((if_pos c16).trans (if_neg c25)))))) rfl
      ·
        refine s_iconst X (pc := 28) (v := 1) dX2_canEnter_28 (by decide) ?_
        refine s_goto X (pc := 29) (tgt := 33) dX2_canEnter_29 (by decide) ?_
        exact s_zret X (pc := 33) (v := (1 : Int32)) (Or.inr rfl) dX2_canEnter_33 (Eq.symm (show rX2_canEnter a0 a1 a3 p0 p1 = (1 : Int32) from (by unfold rX2_canEnter; exact ((if_pos c6).trans ((if_pos c16).trans (if_pos c25)))))) rfl
theorem bX2_canEnter (a0 a1 a3 : Nat → Int32) (p0 p1 : Int32) : rX2_canEnter a0 a1 a3 p0 p1 = 0 ∨ rX2_canEnter a0 a1 a3 p0 p1 = 1 := by
  unfold rX2_canEnter
  repeat' split
  all_goals first | exact Or.inl rfl | exact Or.inr rfl

theorem iX2_enter_X2 : ∀ z ∈ wsX20, z ∈ wsX2_enter := fun z h => List.mem_cons_of_mem _ (List.mem_append_right _ h)
theorem kX2_enter_21 : Cond.fieldLink RX2 21 "BathingCourt$Day" (TX2 3).2.1 (TX2 3).2.2.1 ∈ wsX2_enter := List.mem_of_getElem? (i := 1) rfl
theorem kX2_enter_15 : Cond.fieldLink RX2 15 "BathingCourt$Day" (TX2 1).2.1 (TX2 1).2.2.1 ∈ wsX2_enter := List.mem_of_getElem? (i := 2) rfl
def sX2_enter_1 (a1 : Nat → Int32) (p0 p1 : Int32) : Nat → Int32 := upd a1 p1.toNatClampNeg p0
def sX2_enter_3 (a3 : Nat → Int32) (p0 : Int32) : Nat → Int32 := upd a3 p0.toNatClampNeg (1 : Int32)
set_option maxRecDepth 100000 in
set_option maxHeartbeats 4000000 in
theorem c_X2_enter (l : Launch) (G : GT) (ad : Nat → Nat) (a0 a1 a2 a3 a4 : Nat → Int32) (a5 p0 p1 : Int32) (hc : vp_in p0 5) (hh : vp_in p1 4) : Cv l G yX2_enter wsX2_enter (rmL 0) [.ref (ad 0), .int p0, .int p1] (wX2 G ad a0 a1 a2 a3 a4 a5) (wX2 G ad a0 (sX2_enter_1 a1 p0 p1) a2 (sX2_enter_3 a3 p0) a4 a5) := by
  refine cv_start (by decide) rfl rfl (Nat.le_of_ble_eq_true rfl) ?_
  intro p e s m args below meth c A X
  refine s_perm (lv2 := [(0, .ref (ad 0)), (1, .int p0), (2, .int p1)]) [0, 1, 2] rfl ?_
  refine s_aload_n X (pc := 0) (x := (ad 0)) 0 dX2_enter_0 rfl ?_
  refine s_get X (pc := 1) (v := .ref (ad 4)) iX2_enter_X2 0 rfl rfl 3 (by decide) kX2_enter_21 rfl rfl dX2_enter_1 ?_
  refine s_iload_n X (pc := 4) (x := p0) 1 dX2_enter_4 rfl ?_
  refine s_iconst X (pc := 5) (v := 1) dX2_enter_5 (by decide) ?_
  refine s_iast X (pc := 6) (n := 5) (f := a3) (w2 := wX2 G ad a0 a1 a2 (upd a3 p0.toNatClampNeg (1 : Int32)) a4 a5) 4 rfl (by first | with_reducible assumption | exact vin (b := 5) rfl (by grind) (by grind)) rfl dX2_enter_6 ?_
  refine s_aload_n X (pc := 7) (x := (ad 0)) 0 dX2_enter_7 rfl ?_
  refine s_get X (pc := 8) (v := .ref (ad 2)) iX2_enter_X2 0 rfl rfl 1 (by decide) kX2_enter_15 rfl rfl dX2_enter_8 ?_
  refine s_iload_n X (pc := 11) (x := p1) 2 dX2_enter_11 rfl ?_
  refine s_iload_n X (pc := 12) (x := p0) 1 dX2_enter_12 rfl ?_
  refine s_iast X (pc := 13) (n := 4) (f := a1) (w2 := wX2 G ad a0 (upd a1 p1.toNatClampNeg p0) a2 (upd a3 p0.toNatClampNeg (1 : Int32)) a4 a5) 2 rfl (by first | with_reducible assumption | exact vin (b := 4) rfl (by grind) (by grind)) rfl dX2_enter_13 ?_
  exact s_vret X (pc := 14) dX2_enter_14 (by rw [show sX2_enter_1 a1 p0 p1 = upd a1 p1.toNatClampNeg p0 from rfl, show sX2_enter_3 a3 p0 = upd a3 p0.toNatClampNeg (1 : Int32) from rfl])

theorem iX2_canMove_X2 : ∀ z ∈ wsX20, z ∈ wsX2_canMove := fun z h => List.mem_cons_of_mem _ (List.mem_append_right _ h)
theorem kX2_canMove_18 : Cond.fieldLink RX2 18 "BathingCourt$Day" (TX2 2).2.1 (TX2 2).2.2.1 ∈ wsX2_canMove := List.mem_of_getElem? (i := 1) rfl
theorem kX2_canMove_9 : Cond.fieldLink RX2 9 "BathingCourt$Day" (TX2 0).2.1 (TX2 0).2.2.1 ∈ wsX2_canMove := List.mem_of_getElem? (i := 2) rfl
theorem kX2_canMove_m37 : Cond.methodLink RX2 37 Lib.Math.abs.name ∈ wsX2_canMove := List.mem_of_getElem? (i := 3) rfl
theorem kX2_canMove_stabs : Cond.static Lib.Math.abs.name ∈ wsX2_canMove := List.mem_of_getElem? (i := 4) rfl
theorem kX2_canMove_inMath : Cond.initialized "java/lang/Math" ∈ wsX2_canMove := List.mem_of_getElem? (i := 5) rfl
theorem kX2_canMove_coabs : Cond.code Lib.Math.abs.name Lib.Math.abs.code 1 (some .int) ∈ wsX2_canMove := List.mem_of_getElem? (i := 6) rfl
def rX2_canMove (a0 a2 : Nat → Int32) (p0 p1 p2 : Int32) : Int32 := if (a2 p0.toNatClampNeg) = 0 then (if p1 = (a0 p0.toNatClampNeg) then (0 : Int32) else (if p2 < (if 0 ≤ (p1 - (a0 p0.toNatClampNeg)) then (p1 - (a0 p0.toNatClampNeg)) else 0 - (p1 - (a0 p0.toNatClampNeg))) then (0 : Int32) else (1 : Int32))) else (0 : Int32)
set_option maxRecDepth 100000 in
set_option maxHeartbeats 4000000 in
theorem c_X2_canMove (l : Launch) (G : GT) (ad : Nat → Nat) (a0 a1 a2 a3 a4 : Nat → Int32) (a5 p0 p1 p2 : Int32) (hh : vp_in p0 4) : Ci l G yX2_canMove wsX2_canMove (rmL 0) [.ref (ad 0), .int p0, .int p1, .int p2] (wX2 G ad a0 a1 a2 a3 a4 a5) (rX2_canMove a0 a2 p0 p1 p2) (wX2 G ad a0 a1 a2 a3 a4 a5) := by
  refine ci_start .boolean (by decide) rfl rfl (Nat.le_of_ble_eq_true rfl) ?_
  intro p e s m args below meth c A X
  refine s_perm (lv2 := [(0, .ref (ad 0)), (1, .int p0), (2, .int p1), (3, .int p2)]) [0, 1, 2, 3] rfl ?_
  refine s_aload_n X (pc := 0) (x := (ad 0)) 0 dX2_canMove_0 rfl ?_
  refine s_get X (pc := 1) (v := .ref (ad 3)) iX2_canMove_X2 0 rfl rfl 2 (by decide) kX2_canMove_18 rfl rfl dX2_canMove_1 ?_
  refine s_iload_n X (pc := 4) (x := p0) 1 dX2_canMove_4 rfl ?_
  refine s_iald X (pc := 5) (n := 4) (f := a2) 3 rfl (by first | with_reducible assumption | exact vin (b := 4) rfl (by grind) (by grind)) dX2_canMove_5 ?_
  refine s_if_ne X (pc := 6) (tgt := 38) dX2_canMove_6 (by decide) (fun c6 => ?_) (fun c6 => ?_)
  ·
    refine s_iconst X (pc := 38) (v := 0) dX2_canMove_38 (by decide) ?_
    exact s_zret X (pc := 39) (v := (0 : Int32)) (Or.inl rfl) dX2_canMove_39 (Eq.symm (show rX2_canMove a0 a2 p0 p1 p2 = (0 : Int32) from (by unfold rX2_canMove; exact (if_neg c6)))) rfl
  ·
    refine s_iload_n X (pc := 9) (x := p1) 2 dX2_canMove_9 rfl ?_
    refine s_aload_n X (pc := 10) (x := (ad 0)) 0 dX2_canMove_10 rfl ?_
    refine s_get X (pc := 11) (v := .ref (ad 1)) iX2_canMove_X2 0 rfl rfl 0 (by decide) kX2_canMove_9 rfl rfl dX2_canMove_11 ?_
    refine s_iload_n X (pc := 14) (x := p0) 1 dX2_canMove_14 rfl ?_
    refine s_iald X (pc := 15) (n := 4) (f := a0) 1 rfl (by first | with_reducible assumption | exact vin (b := 4) rfl (by grind) (by grind)) dX2_canMove_15 ?_
    refine s_icmp_eq X (pc := 16) (tgt := 38) dX2_canMove_16 (by decide) (fun c16 => ?_) (fun c16 => ?_)
    ·
      refine s_iconst X (pc := 38) (v := 0) dX2_canMove_38 (by decide) ?_
      exact s_zret X (pc := 39) (v := (0 : Int32)) (Or.inl rfl) dX2_canMove_39 (Eq.symm (show rX2_canMove a0 a2 p0 p1 p2 = (0 : Int32) from (by unfold rX2_canMove; exact ((if_pos c6).trans (if_pos c16))))) rfl
    ·
      refine s_iload_n X (pc := 19) (x := p1) 2 dX2_canMove_19 rfl ?_
      refine s_aload_n X (pc := 20) (x := (ad 0)) 0 dX2_canMove_20 rfl ?_
      refine s_get X (pc := 21) (v := .ref (ad 1)) iX2_canMove_X2 0 rfl rfl 0 (by decide) kX2_canMove_9 rfl rfl dX2_canMove_21 ?_
      refine s_iload_n X (pc := 24) (x := p0) 1 dX2_canMove_24 rfl ?_
      refine s_iald X (pc := 25) (n := 4) (f := a0) 1 rfl (by first | with_reducible assumption | exact vin (b := 4) rfl (by grind) (by grind)) dX2_canMove_25 ?_
      refine s_isub X (pc := 26) dX2_canMove_26 ?_
      refine s_abs X (pc := 27) kX2_canMove_m37 kX2_canMove_stabs kX2_canMove_inMath kX2_canMove_coabs (Nat.le_of_ble_eq_true rfl) (Nat.le_of_ble_eq_true rfl) (Nat.zero_le _) (Nat.zero_le _) dX2_canMove_27 ?_
      refine s_iload_n X (pc := 30) (x := p2) 3 dX2_canMove_30 rfl ?_
      refine s_icmp_gt X (pc := 31) (tgt := 38) dX2_canMove_31 (by decide) (fun c31 => ?_) (fun c31 => ?_)
      ·
        refine s_iconst X (pc := 38) (v := 0) dX2_canMove_38 (by decide) ?_
        exact s_zret X (pc := 39) (v := (0 : Int32)) (Or.inl rfl) dX2_canMove_39 (Eq.symm (show rX2_canMove a0 a2 p0 p1 p2 = (0 : Int32) from (by unfold rX2_canMove; exact ((if_pos c6).trans ((if_neg c16).trans (if_pos c31)))))) rfl
      ·
        refine s_iconst X (pc := 34) (v := 1) dX2_canMove_34 (by decide) ?_
        refine s_goto X (pc := 35) (tgt := 39) dX2_canMove_35 (by decide) ?_
        exact s_zret X (pc := 39) (v := (1 : Int32)) (Or.inr rfl) dX2_canMove_39 (Eq.symm (show rX2_canMove a0 a2 p0 p1 p2 = (1 : Int32) from (by unfold rX2_canMove; exact ((if_pos c6).trans ((if_neg c16).trans (if_neg c31)))))) rfl
theorem bX2_canMove (a0 a2 : Nat → Int32) (p0 p1 p2 : Int32) : rX2_canMove a0 a2 p0 p1 p2 = 0 ∨ rX2_canMove a0 a2 p0 p1 p2 = 1 := by
  unfold rX2_canMove
  repeat' split
  all_goals first | exact Or.inl rfl | exact Or.inr rfl

theorem iX2_move_X2 : ∀ z ∈ wsX20, z ∈ wsX2_move := fun z h => List.mem_cons_of_mem _ (List.mem_append_right _ h)
theorem kX2_move_9 : Cond.fieldLink RX2 9 "BathingCourt$Day" (TX2 0).2.1 (TX2 0).2.2.1 ∈ wsX2_move := List.mem_of_getElem? (i := 1) rfl
theorem kX2_move_18 : Cond.fieldLink RX2 18 "BathingCourt$Day" (TX2 2).2.1 (TX2 2).2.2.1 ∈ wsX2_move := List.mem_of_getElem? (i := 2) rfl
def sX2_move_0 (a0 : Nat → Int32) (p0 p1 : Int32) : Nat → Int32 := upd a0 p0.toNatClampNeg p1
def sX2_move_2 (a2 : Nat → Int32) (p0 : Int32) : Nat → Int32 := upd a2 p0.toNatClampNeg (1 : Int32)
set_option maxRecDepth 100000 in
set_option maxHeartbeats 4000000 in
theorem c_X2_move (l : Launch) (G : GT) (ad : Nat → Nat) (a0 a1 a2 a3 a4 : Nat → Int32) (a5 p0 p1 : Int32) (hh : vp_in p0 4) : Cv l G yX2_move wsX2_move (rmL 0) [.ref (ad 0), .int p0, .int p1] (wX2 G ad a0 a1 a2 a3 a4 a5) (wX2 G ad (sX2_move_0 a0 p0 p1) a1 (sX2_move_2 a2 p0) a3 a4 a5) := by
  refine cv_start (by decide) rfl rfl (Nat.le_of_ble_eq_true rfl) ?_
  intro p e s m args below meth c A X
  refine s_perm (lv2 := [(0, .ref (ad 0)), (1, .int p0), (2, .int p1)]) [0, 1, 2] rfl ?_
  refine s_aload_n X (pc := 0) (x := (ad 0)) 0 dX2_move_0 rfl ?_
  refine s_get X (pc := 1) (v := .ref (ad 1)) iX2_move_X2 0 rfl rfl 0 (by decide) kX2_move_9 rfl rfl dX2_move_1 ?_
  refine s_iload_n X (pc := 4) (x := p0) 1 dX2_move_4 rfl ?_
  refine s_iload_n X (pc := 5) (x := p1) 2 dX2_move_5 rfl ?_
  refine s_iast X (pc := 6) (n := 4) (f := a0) (w2 := wX2 G ad (upd a0 p0.toNatClampNeg p1) a1 a2 a3 a4 a5) 1 rfl (by first | with_reducible assumption | exact vin (b := 4) rfl (by grind) (by grind)) rfl dX2_move_6 ?_
  refine s_aload_n X (pc := 7) (x := (ad 0)) 0 dX2_move_7 rfl ?_
  refine s_get X (pc := 8) (v := .ref (ad 3)) iX2_move_X2 0 rfl rfl 2 (by decide) kX2_move_18 rfl rfl dX2_move_8 ?_
  refine s_iload_n X (pc := 11) (x := p0) 1 dX2_move_11 rfl ?_
  refine s_iconst X (pc := 12) (v := 1) dX2_move_12 (by decide) ?_
  refine s_iast X (pc := 13) (n := 4) (f := a2) (w2 := wX2 G ad (upd a0 p0.toNatClampNeg p1) a1 (upd a2 p0.toNatClampNeg (1 : Int32)) a3 a4 a5) 3 rfl (by first | with_reducible assumption | exact vin (b := 4) rfl (by grind) (by grind)) rfl dX2_move_13 ?_
  exact s_vret X (pc := 14) dX2_move_14 (by rw [show sX2_move_0 a0 p0 p1 = upd a0 p0.toNatClampNeg p1 from rfl, show sX2_move_2 a2 p0 = upd a2 p0.toNatClampNeg (1 : Int32) from rfl])

theorem iX2_endCase_X2 : ∀ z ∈ wsX20, z ∈ wsX2_endCase := fun z h => List.mem_cons_of_mem _ (List.mem_append_right _ h)
theorem kX2_endCase_21 : Cond.fieldLink RX2 21 "BathingCourt$Day" (TX2 3).2.1 (TX2 3).2.2.1 ∈ wsX2_endCase := List.mem_of_getElem? (i := 1) rfl
theorem kX2_endCase_15 : Cond.fieldLink RX2 15 "BathingCourt$Day" (TX2 1).2.1 (TX2 1).2.2.1 ∈ wsX2_endCase := List.mem_of_getElem? (i := 2) rfl
def aX2_endCase_9 (a1 : Nat → Int32) (p0 : Int32) : Nat → (Nat → Int32)
  | 0 => a1
  | k9 + 1 => if ((aX2_endCase_9 a1 p0 k9) (nI k9).toNatClampNeg) = p0 then (upd (aX2_endCase_9 a1 p0 k9) (nI k9).toNatClampNeg (-1 : Int32)) else (aX2_endCase_9 a1 p0 k9)
def sX2_endCase_1 (a1 : Nat → Int32) (p0 : Int32) : Nat → Int32 := (aX2_endCase_9 a1 p0 4)
def sX2_endCase_3 (a3 : Nat → Int32) (p0 p1 : Int32) : Nat → Int32 := upd a3 p0.toNatClampNeg p1
set_option maxRecDepth 100000 in
set_option maxHeartbeats 4000000 in
theorem c_X2_endCase (l : Launch) (G : GT) (ad : Nat → Nat) (a0 a1 a2 a3 a4 : Nat → Int32) (a5 p0 p1 : Int32) (hc : vp_in p0 5) : Cv l G yX2_endCase wsX2_endCase (rmL 0) [.ref (ad 0), .int p0, .int p1] (wX2 G ad a0 a1 a2 a3 a4 a5) (wX2 G ad a0 (sX2_endCase_1 a1 p0) a2 (sX2_endCase_3 a3 p0 p1) a4 a5) := by
  refine cv_start (by decide) rfl rfl (Nat.le_of_ble_eq_true rfl) ?_
  intro p e s m args below meth c A X
  refine s_perm (lv2 := [(0, .ref (ad 0)), (1, .int p0), (2, .int p1)]) [0, 1, 2] rfl ?_
  refine s_aload_n X (pc := 0) (x := (ad 0)) 0 dX2_endCase_0 rfl ?_
  refine s_get X (pc := 1) (v := .ref (ad 4)) iX2_endCase_X2 0 rfl rfl 3 (by decide) kX2_endCase_21 rfl rfl dX2_endCase_1 ?_
  refine s_iload_n X (pc := 4) (x := p0) 1 dX2_endCase_4 rfl ?_
  refine s_iload_n X (pc := 5) (x := p1) 2 dX2_endCase_5 rfl ?_
  refine s_iast X (pc := 6) (n := 5) (f := a3) (w2 := wX2 G ad a0 a1 a2 (upd a3 p0.toNatClampNeg p1) a4 a5) 4 rfl (by first | with_reducible assumption | exact vin (b := 5) rfl (by grind) (by grind)) rfl dX2_endCase_6 ?_
  refine s_iconst X (pc := 7) (v := 0) dX2_endCase_7 (by decide) ?_
  refine s_istore_n X (pc := 8) (i := 3) (lv2 := [(3, .int (0 : Int32)), (0, .ref (ad 0)), (1, .int p0), (2, .int p1)]) dX2_endCase_8 rfl (by decide) rfl ?_
  refine s_perm (lv2 := [(0, .ref (ad 0)), (1, .int p0), (2, .int p1), (3, .int (0 : Int32))]) [1, 2, 3, 0] rfl ?_
  have L9 : ∀ (n9 k9 : Nat), k9 + n9 = 4 → Sm p l e (rmL 0) s m args below meth c G A 4 0 0 (Qcv below G A args s (wX2 G ad a0 (sX2_endCase_1 a1 p0) a2 (sX2_endCase_3 a3 p0 p1) a4 a5)) 9 [(0, .ref (ad 0)), (1, .int p0), (2, .int p1), (3, .int (nI k9))] [] (wX2 G ad a0 (aX2_endCase_9 a1 p0 k9) a2 (upd a3 p0.toNatClampNeg p1) a4 a5) := by
    intro n9
    induction n9 with
    | zero =>
      intro k9 hk9
      have hK9 : k9 = 4 := by omega
      rw [hK9]
      have tk9 : (nI 4).toInt = ((4 : Nat) : Int) := nI_toInt (by omega)
      have eN9 : ((4 : Int32)).toInt = ((4 : Nat) : Int) := rfl
      refine s_iload_n X (pc := 9) (x := nI 4) 3 dX2_endCase_9 rfl ?_
      refine s_iconst X (pc := 10) (v := 4) dX2_endCase_10 (by decide) ?_
      refine s_icmp_ge X (pc := 11) (tgt := 37) dX2_endCase_11 (by decide) (fun c11 => ?_) (fun c11 => ?_)
      ·
        exact s_vret X (pc := 37) dX2_endCase_37 (by rw [show sX2_endCase_1 a1 p0 = (aX2_endCase_9 a1 p0 4) from rfl, show sX2_endCase_3 a3 p0 p1 = upd a3 p0.toNatClampNeg p1 from rfl])
      ·
        exact absurd ((t_le eN9 tk9).mpr (by omega)) c11
    | succ n9 ih9 =>
      intro k9 hk9
      have hlt9 : k9 < 4 := by omega
      have tk9 : (nI k9).toInt = ((k9 : Nat) : Int) := nI_toInt (by omega)
      have eN9 : ((4 : Int32)).toInt = ((4 : Nat) : Int) := rfl
      refine s_iload_n X (pc := 9) (x := nI k9) 3 dX2_endCase_9 rfl ?_
      refine s_iconst X (pc := 10) (v := 4) dX2_endCase_10 (by decide) ?_
      refine s_icmp_ge X (pc := 11) (tgt := 37) dX2_endCase_11 (by decide) (fun c11 => ?_) (fun c11 => ?_)
      ·
        exact absurd ((t_le eN9 tk9).mp c11) (by omega)
      ·
        refine s_aload_n X (pc := 14) (x := (ad 0)) 0 dX2_endCase_14 rfl ?_
        refine s_get X (pc := 15) (v := .ref (ad 2)) iX2_endCase_X2 0 rfl rfl 1 (by decide) kX2_endCase_15 rfl rfl dX2_endCase_15 ?_
        refine s_iload_n X (pc := 18) (x := nI k9) 3 dX2_endCase_18 rfl ?_
        refine s_iald X (pc := 19) (n := 4) (f := (aX2_endCase_9 a1 p0 k9)) 2 rfl (vp_in_nI (by omega) (by decide)) dX2_endCase_19 ?_
        refine s_iload_n X (pc := 20) (x := p0) 1 dX2_endCase_20 rfl ?_
        refine s_icmp_ne X (pc := 21) (tgt := 31) dX2_endCase_21 (by decide) (fun c21 => ?_) (fun c21 => ?_)
        ·
          refine s_iinc X (pc := 31) (v := nI (k9 + 1)) (lv2 := [(3, .int (nI (k9 + 1))), (0, .ref (ad 0)), (1, .int p0), (2, .int p1)]) 3 dX2_endCase_31 rfl (nI_1 _) (by decide) rfl ?_
          refine s_goto X (pc := 34) (tgt := 9) dX2_endCase_34 (by decide) ?_
          refine s_perm (lv2 := [(0, .ref (ad 0)), (1, .int p0), (2, .int p1), (3, .int (nI (k9 + 1)))]) [1, 2, 3, 0] rfl ?_
          have hb9 : (aX2_endCase_9 a1 p0 (k9 + 1)) = (aX2_endCase_9 a1 p0 k9) := by rw [aX2_endCase_9]; exact (if_neg c21)
          refine s_cast (lv2 := [(0, .ref (ad 0)), (1, .int p0), (2, .int p1), (3, .int (nI (k9 + 1)))]) (w2 := wX2 G ad a0 (aX2_endCase_9 a1 p0 (k9 + 1)) a2 (upd a3 p0.toNatClampNeg p1) a4 a5) (by first | (rw [hb9]; done) | rfl) (by first | (rw [hb9]; done) | rfl) ?_
          exact ih9 (k9 + 1) (by omega)
        ·
          refine s_aload_n X (pc := 24) (x := (ad 0)) 0 dX2_endCase_24 rfl ?_
          refine s_get X (pc := 25) (v := .ref (ad 2)) iX2_endCase_X2 0 rfl rfl 1 (by decide) kX2_endCase_15 rfl rfl dX2_endCase_25 ?_
          refine s_iload_n X (pc := 28) (x := nI k9) 3 dX2_endCase_28 rfl ?_
          refine s_iconst X (pc := 29) (v := -1) dX2_endCase_29 (by decide) ?_
          refine s_iast X (pc := 30) (n := 4) (f := (aX2_endCase_9 a1 p0 k9)) (w2 := wX2 G ad a0 (upd (aX2_endCase_9 a1 p0 k9) (nI k9).toNatClampNeg (-1 : Int32)) a2 (upd a3 p0.toNatClampNeg p1) a4 a5) 2 rfl (vp_in_nI (by omega) (by decide)) rfl dX2_endCase_30 ?_
          refine s_iinc X (pc := 31) (v := nI (k9 + 1)) (lv2 := [(3, .int (nI (k9 + 1))), (0, .ref (ad 0)), (1, .int p0), (2, .int p1)]) 3 dX2_endCase_31 rfl (nI_1 _) (by decide) rfl ?_
          refine s_goto X (pc := 34) (tgt := 9) dX2_endCase_34 (by decide) ?_
          refine s_perm (lv2 := [(0, .ref (ad 0)), (1, .int p0), (2, .int p1), (3, .int (nI (k9 + 1)))]) [1, 2, 3, 0] rfl ?_
          have hb9 : (aX2_endCase_9 a1 p0 (k9 + 1)) = upd (aX2_endCase_9 a1 p0 k9) (nI k9).toNatClampNeg (-1 : Int32) := by rw [aX2_endCase_9]; exact (if_pos c21)
          refine s_cast (lv2 := [(0, .ref (ad 0)), (1, .int p0), (2, .int p1), (3, .int (nI (k9 + 1)))]) (w2 := wX2 G ad a0 (aX2_endCase_9 a1 p0 (k9 + 1)) a2 (upd a3 p0.toNatClampNeg p1) a4 a5) (by first | (rw [hb9]; done) | rfl) (by first | (rw [hb9]; done) | rfl) ?_
          exact ih9 (k9 + 1) (by omega)
  exact L9 4 0 (Nat.zero_add _)

theorem iX2_hearCase_X0 : ∀ z ∈ wsX00, z ∈ wsX2_hearCase := fun z h => List.mem_cons_of_mem _ (List.mem_append_right _ h)
theorem iX2_hearCase_X2 : ∀ z ∈ wsX20, z ∈ wsX2_hearCase := fun z h => List.mem_cons_of_mem _ (List.mem_append_left _ (List.mem_append_right _ h))
theorem kX2_hearCase_24 : Cond.fieldLink RX2 24 "BathingCourt$Day" (TX2 4).2.1 (TX2 4).2.2.1 ∈ wsX2_hearCase := List.mem_of_getElem? (i := 1) rfl
theorem kX2_hearCase_71 : Cond.fieldLink RX2 71 "BathingCourt$Beach" (TX0 3).2.1 (TX0 3).2.2.1 ∈ wsX2_hearCase := List.mem_of_getElem? (i := 2) rfl
def sX2_hearCase_1 (a1 a4 b2 b3 b4 : Nat → Int32) (p0 p1 : Int32) : Nat → Int32 := if (rX0_isTooDeep b2 b4 p0 p1) = 0 then (if (rX0_isDeepEnough b2 p0 p1) = 0 then a1 else (if ((a4 p0.toNatClampNeg) + (1 : Int32)) < (b3 p0.toNatClampNeg) then a1 else (sX2_endCase_1 a1 p0))) else (sX2_endCase_1 a1 p0)
def sX2_hearCase_3 (a3 a4 b2 b3 b4 : Nat → Int32) (p0 p1 : Int32) : Nat → Int32 := if (rX0_isTooDeep b2 b4 p0 p1) = 0 then (if (rX0_isDeepEnough b2 p0 p1) = 0 then a3 else (if ((a4 p0.toNatClampNeg) + (1 : Int32)) < (b3 p0.toNatClampNeg) then a3 else (sX2_endCase_3 a3 p0 (2 : Int32)))) else (sX2_endCase_3 a3 p0 (4 : Int32))
def sX2_hearCase_4 (a4 b2 b3 b4 : Nat → Int32) (p0 p1 : Int32) : Nat → Int32 := if (rX0_isTooDeep b2 b4 p0 p1) = 0 then (if (rX0_isDeepEnough b2 p0 p1) = 0 then a4 else (if ((a4 p0.toNatClampNeg) + (1 : Int32)) < (b3 p0.toNatClampNeg) then (upd a4 p0.toNatClampNeg ((a4 p0.toNatClampNeg) + (1 : Int32))) else (upd a4 p0.toNatClampNeg ((a4 p0.toNatClampNeg) + (1 : Int32))))) else a4
set_option maxRecDepth 100000 in
set_option maxHeartbeats 4000000 in
theorem c_X2_hearCase (l : Launch) (G : GT) (ad : Nat → Nat) (bd : Nat → Nat) (a0 a1 a2 a3 a4 : Nat → Int32) (a5 : Int32) (b0 b1 b2 b3 b4 b5 : Nat → Int32) (b6 b7 b8 p0 p1 : Int32) (hc : vp_in p0 5) : Cv l G yX2_hearCase wsX2_hearCase (rmL 1) [.ref (ad 0), .ref (bd 0), .int p0, .int p1] (wX2 G ad a0 a1 a2 a3 a4 a5 ++ wX0 G bd b0 b1 b2 b3 b4 b5 b6 b7 b8) (wX2 G ad a0 (sX2_hearCase_1 a1 a4 b2 b3 b4 p0 p1) a2 (sX2_hearCase_3 a3 a4 b2 b3 b4 p0 p1) (sX2_hearCase_4 a4 b2 b3 b4 p0 p1) a5 ++ wX0 G bd b0 b1 b2 b3 b4 b5 b6 b7 b8) := by
  refine cv_start (by decide) rfl rfl (Nat.le_of_ble_eq_true rfl) ?_
  intro p e s m args below meth c A X
  refine s_perm (lv2 := [(0, .ref (ad 0)), (1, .ref (bd 0)), (2, .int p0), (3, .int p1)]) [0, 1, 2, 3] rfl ?_
  refine s_aload_n X (pc := 0) (x := (bd 0)) 1 dX2_hearCase_0 rfl ?_
  refine s_iload_n X (pc := 1) (x := p0) 2 dX2_hearCase_1 rfl ?_
  refine s_iload_n X (pc := 2) (x := p1) 3 dX2_hearCase_2 rfl ?_
  refine s_callVi X (pc := 3) (r := rX0_isTooDeep b2 b4 p0 p1) (w := wX2 G ad a0 a1 a2 a3 a4 a5 ++ wX0 G bd b0 b1 b2 b3 b4 b5 b6 b7 b8) (n := 2) (st := []) (As := [.int p0, .int p1]) (w2 := wX2 G ad a0 a1 a2 a3 a4 a5 ++ wX0 G bd b0 b1 b2 b3 b4 b5 b6 b7 b8) 0 (c_X0_isTooDeep l G bd b0 b1 b2 b3 b4 b5 b6 b7 b8 p0 p1 hc) gX2_hearCase_X0_isTooDeep rfl (by decide +kernel) ⟨Nat.le_of_ble_eq_true rfl, Nat.le_of_ble_eq_true rfl⟩ 0 rfl rfl [6, 7, 8, 9, 10, 11, 12] rfl rfl rfl rfl [ad 0, ad 1, ad 2, ad 3, ad 4, ad 5, bd 0, bd 1, bd 2, bd 3, bd 4, bd 5, bd 6] rfl rfl rfl rfl (Nat.le_of_ble_eq_true rfl) (Nat.zero_le _) (Nat.zero_le _) dX2_hearCase_3 ?_
  refine s_if_eq X (pc := 6) (tgt := 18) dX2_hearCase_6 (by decide) (fun c6 => ?_) (fun c6 => ?_)
  ·
    refine s_aload_n X (pc := 18) (x := (bd 0)) 1 dX2_hearCase_18 rfl ?_
    refine s_iload_n X (pc := 19) (x := p0) 2 dX2_hearCase_19 rfl ?_
    refine s_iload_n X (pc := 20) (x := p1) 3 dX2_hearCase_20 rfl ?_
    refine s_callVi X (pc := 21) (r := rX0_isDeepEnough b2 p0 p1) (w := wX2 G ad a0 a1 a2 a3 a4 a5 ++ wX0 G bd b0 b1 b2 b3 b4 b5 b6 b7 b8) (n := 2) (st := []) (As := [.int p0, .int p1]) (w2 := wX2 G ad a0 a1 a2 a3 a4 a5 ++ wX0 G bd b0 b1 b2 b3 b4 b5 b6 b7 b8) 0 (c_X0_isDeepEnough l G bd b0 b1 b2 b3 b4 b5 b6 b7 b8 p0 p1 hc) gX2_hearCase_X0_isDeepEnough rfl (by decide +kernel) ⟨Nat.le_of_ble_eq_true rfl, Nat.le_of_ble_eq_true rfl⟩ 0 rfl rfl [6, 7, 8, 9, 10, 11, 12] rfl rfl rfl rfl [ad 0, ad 1, ad 2, ad 3, ad 4, ad 5, bd 0, bd 1, bd 2, bd 3, bd 4, bd 5, bd 6] rfl rfl rfl rfl (Nat.le_of_ble_eq_true rfl) (Nat.zero_le _) (Nat.zero_le _) dX2_hearCase_21 ?_
    refine s_if_eq X (pc := 24) (tgt := 58) dX2_hearCase_24 (by decide) (fun c24 => ?_) (fun c24 => ?_)
    ·
      exact s_vret X (pc := 58) dX2_hearCase_58 (by rw [show sX2_hearCase_1 a1 a4 b2 b3 b4 p0 p1 = a1 from (by unfold sX2_hearCase_1; exact ((if_pos c6).trans (if_pos c24))), show sX2_hearCase_3 a3 a4 b2 b3 b4 p0 p1 = a3 from (by unfold sX2_hearCase_3; exact ((if_pos c6).trans (if_pos c24))), show sX2_hearCase_4 a4 b2 b3 b4 p0 p1 = a4 from (by unfold sX2_hearCase_4; exact ((if_pos c6).trans (if_pos c24)))])
    ·
      refine s_aload_n X (pc := 27) (x := (ad 0)) 0 dX2_hearCase_27 rfl ?_
      refine s_get X (pc := 28) (v := .ref (ad 5)) iX2_hearCase_X2 0 rfl rfl 4 (by decide) kX2_hearCase_24 rfl rfl dX2_hearCase_28 ?_
      refine s_iload_n X (pc := 31) (x := p0) 2 dX2_hearCase_31 rfl ?_
      refine s_dup2 X (pc := 32) dX2_hearCase_32 rfl rfl ?_
      refine s_iald X (pc := 33) (n := 5) (f := a4) 5 rfl (by first | with_reducible assumption | exact vin (b := 5) rfl (by grind) (by grind)) dX2_hearCase_33 ?_
      refine s_iconst X (pc := 34) (v := 1) dX2_hearCase_34 (by decide) ?_
      refine s_iadd X (pc := 35) dX2_hearCase_35 ?_
      refine s_iast X (pc := 36) (n := 5) (f := a4) (w2 := wX2 G ad a0 a1 a2 a3 (upd a4 p0.toNatClampNeg ((a4 p0.toNatClampNeg) + (1 : Int32))) a5 ++ wX0 G bd b0 b1 b2 b3 b4 b5 b6 b7 b8) 5 rfl (by first | with_reducible assumption | exact vin (b := 5) rfl (by grind) (by grind)) rfl dX2_hearCase_36 ?_
      refine s_aload_n X (pc := 37) (x := (ad 0)) 0 dX2_hearCase_37 rfl ?_
      refine s_get X (pc := 38) (v := .ref (ad 5)) iX2_hearCase_X2 0 rfl rfl 4 (by decide) kX2_hearCase_24 rfl rfl dX2_hearCase_38 ?_
      refine s_iload_n X (pc := 41) (x := p0) 2 dX2_hearCase_41 rfl ?_
      refine s_iald X (pc := 42) (n := 5) (f := upd a4 p0.toNatClampNeg ((a4 p0.toNatClampNeg) + (1 : Int32))) 5 rfl (by first | with_reducible assumption | exact vin (b := 5) rfl (by grind) (by grind)) dX2_hearCase_42 ?_
      refine s_topeq pk_us ?_
      refine s_aload_n X (pc := 43) (x := (bd 0)) 1 dX2_hearCase_43 rfl ?_
      refine s_get X (pc := 44) (v := .ref (bd 4)) iX2_hearCase_X0 6 rfl rfl 3 (by decide) kX2_hearCase_71 rfl rfl dX2_hearCase_44 ?_
      refine s_iload_n X (pc := 47) (x := p0) 2 dX2_hearCase_47 rfl ?_
      refine s_iald X (pc := 48) (n := 5) (f := b3) 10 rfl (by first | with_reducible assumption | exact vin (b := 5) rfl (by grind) (by grind)) dX2_hearCase_48 ?_
      refine s_icmp_lt X (pc := 49) (tgt := 58) dX2_hearCase_49 (by decide) (fun c49 => ?_) (fun c49 => ?_)
      ·
        exact s_vret X (pc := 58) dX2_hearCase_58 (by rw [show sX2_hearCase_1 a1 a4 b2 b3 b4 p0 p1 = a1 from (by unfold sX2_hearCase_1; exact ((if_pos c6).trans ((if_neg c24).trans (if_pos c49)))), show sX2_hearCase_3 a3 a4 b2 b3 b4 p0 p1 = a3 from (by unfold sX2_hearCase_3; exact ((if_pos c6).trans ((if_neg c24).trans (if_pos c49)))), show sX2_hearCase_4 a4 b2 b3 b4 p0 p1 = upd a4 p0.toNatClampNeg ((a4 p0.toNatClampNeg) + (1 : Int32)) from (by unfold sX2_hearCase_4; exact ((if_pos c6).trans ((if_neg c24).trans (if_pos c49))))])
      ·
        refine s_aload_n X (pc := 52) (x := (ad 0)) 0 dX2_hearCase_52 rfl ?_
        refine s_iload_n X (pc := 53) (x := p0) 2 dX2_hearCase_53 rfl ?_
        refine s_iconst X (pc := 54) (v := 2) dX2_hearCase_54 (by decide) ?_
        refine s_callVv X (pc := 55) (w := wX2 G ad a0 a1 a2 a3 (upd a4 p0.toNatClampNeg ((a4 p0.toNatClampNeg) + (1 : Int32))) a5 ++ wX0 G bd b0 b1 b2 b3 b4 b5 b6 b7 b8) (n := 2) (st := []) (As := [.int p0, .int (2 : Int32)]) (w2 := wX2 G ad a0 (sX2_endCase_1 a1 p0) a2 (sX2_endCase_3 a3 p0 (2 : Int32)) (upd a4 p0.toNatClampNeg ((a4 p0.toNatClampNeg) + (1 : Int32))) a5 ++ wX0 G bd b0 b1 b2 b3 b4 b5 b6 b7 b8) 0 (c_X2_endCase l G ad a0 a1 a2 a3 (upd a4 p0.toNatClampNeg ((a4 p0.toNatClampNeg) + (1 : Int32))) a5 p0 (2 : Int32) hc) gX2_hearCase_X2_endCase rfl (by decide +kernel) ⟨Nat.le_of_ble_eq_true rfl, Nat.le_of_ble_eq_true rfl⟩ 0 rfl rfl [0, 1, 2, 3, 4, 5] rfl rfl rfl rfl [ad 0, ad 1, ad 2, ad 3, ad 4, ad 5, bd 0, bd 1, bd 2, bd 3, bd 4, bd 5, bd 6] rfl rfl rfl rfl (Nat.le_of_ble_eq_true rfl) (Nat.zero_le _) (Nat.zero_le _) dX2_hearCase_55 ?_
        exact s_vret X (pc := 58) dX2_hearCase_58 (by rw [show sX2_hearCase_1 a1 a4 b2 b3 b4 p0 p1 = sX2_endCase_1 a1 p0 from (by unfold sX2_hearCase_1; exact ((if_pos c6).trans ((if_neg c24).trans (if_neg c49)))), show sX2_hearCase_3 a3 a4 b2 b3 b4 p0 p1 = sX2_endCase_3 a3 p0 (2 : Int32) from (by unfold sX2_hearCase_3; exact ((if_pos c6).trans ((if_neg c24).trans (if_neg c49)))), show sX2_hearCase_4 a4 b2 b3 b4 p0 p1 = upd a4 p0.toNatClampNeg ((a4 p0.toNatClampNeg) + (1 : Int32)) from (by unfold sX2_hearCase_4; exact ((if_pos c6).trans ((if_neg c24).trans (if_neg c49))))])
  ·
    refine s_aload_n X (pc := 9) (x := (ad 0)) 0 dX2_hearCase_9 rfl ?_
    refine s_iload_n X (pc := 10) (x := p0) 2 dX2_hearCase_10 rfl ?_
    refine s_iconst X (pc := 11) (v := 4) dX2_hearCase_11 (by decide) ?_
    refine s_callVv X (pc := 12) (w := wX2 G ad a0 a1 a2 a3 a4 a5 ++ wX0 G bd b0 b1 b2 b3 b4 b5 b6 b7 b8) (n := 2) (st := []) (As := [.int p0, .int (4 : Int32)]) (w2 := wX2 G ad a0 (sX2_endCase_1 a1 p0) a2 (sX2_endCase_3 a3 p0 (4 : Int32)) a4 a5 ++ wX0 G bd b0 b1 b2 b3 b4 b5 b6 b7 b8) 0 (c_X2_endCase l G ad a0 a1 a2 a3 a4 a5 p0 (4 : Int32) hc) gX2_hearCase_X2_endCase rfl (by decide +kernel) ⟨Nat.le_of_ble_eq_true rfl, Nat.le_of_ble_eq_true rfl⟩ 0 rfl rfl [0, 1, 2, 3, 4, 5] rfl rfl rfl rfl [ad 0, ad 1, ad 2, ad 3, ad 4, ad 5, bd 0, bd 1, bd 2, bd 3, bd 4, bd 5, bd 6] rfl rfl rfl rfl (Nat.le_of_ble_eq_true rfl) (Nat.zero_le _) (Nat.zero_le _) dX2_hearCase_12 ?_
    refine s_goto X (pc := 15) (tgt := 58) dX2_hearCase_15 (by decide) ?_
    exact s_vret X (pc := 58) dX2_hearCase_58 (by rw [show sX2_hearCase_1 a1 a4 b2 b3 b4 p0 p1 = sX2_endCase_1 a1 p0 from (by unfold sX2_hearCase_1; exact (if_neg c6)), show sX2_hearCase_3 a3 a4 b2 b3 b4 p0 p1 = sX2_endCase_3 a3 p0 (4 : Int32) from (by unfold sX2_hearCase_3; exact (if_neg c6)), show sX2_hearCase_4 a4 b2 b3 b4 p0 p1 = a4 from (by unfold sX2_hearCase_4; exact (if_neg c6))])

theorem hasCase_in {n x : Int32} (h5 : n ≤ 5) (h : ¬ rX0_hasCase n x = 0) : vp_in x 5 := by
  unfold rX0_hasCase at h
  exact vin (b := 5) rfl (by grind) (by grind)
theorem hasHut_in {n x : Int32} (h5 : n ≤ 4) (h : ¬ rX0_hasHut n x = 0) : vp_in x 4 := by
  unfold rX0_hasHut at h
  exact vin (b := 4) rfl (by grind) (by grind)

theorem iX2_passHour_X0 : ∀ z ∈ wsX00, z ∈ wsX2_passHour := fun z h => List.mem_cons_of_mem _ (List.mem_append_left _ (List.mem_append_right _ h))
theorem iX2_passHour_X2 : ∀ z ∈ wsX20, z ∈ wsX2_passHour := fun z h => List.mem_cons_of_mem _ (List.mem_append_right _ h)
theorem kX2_passHour_43 : Cond.fieldLink RX2 43 "BathingCourt$Beach" (TX0 7).2.1 (TX0 7).2.2.1 ∈ wsX2_passHour := List.mem_of_getElem? (i := 1) rfl
theorem kX2_passHour_33 : Cond.fieldLink RX2 33 "BathingCourt$Day" (TX2 5).2.1 (TX2 5).2.2.1 ∈ wsX2_passHour := List.mem_of_getElem? (i := 4) rfl
theorem kX2_passHour_15 : Cond.fieldLink RX2 15 "BathingCourt$Day" (TX2 1).2.1 (TX2 1).2.2.1 ∈ wsX2_passHour := List.mem_of_getElem? (i := 2) rfl
theorem kX2_passHour_18 : Cond.fieldLink RX2 18 "BathingCourt$Day" (TX2 2).2.1 (TX2 2).2.2.1 ∈ wsX2_passHour := List.mem_of_getElem? (i := 5) rfl
theorem kX2_passHour_9 : Cond.fieldLink RX2 9 "BathingCourt$Day" (TX2 0).2.1 (TX2 0).2.2.1 ∈ wsX2_passHour := List.mem_of_getElem? (i := 3) rfl
def aX2_passHour_2 (a0 a1 a2 a3 a4 : Nat → Int32) (a5 : Int32) (b0 b2 b3 b4 : Nat → Int32) (b6 b8 : Int32) : Nat → (Nat → Int32) × (Nat → Int32) × (Nat → Int32) × (Nat → Int32)
  | 0 => (a1, a2, a3, a4)
  | k2 + 1 => if (rX0_hasCase b8 (((aX2_passHour_2 a0 a1 a2 a3 a4 a5 b0 b2 b3 b4 b6 b8 k2).1) (nI k2).toNatClampNeg)) = 0 then ((aX2_passHour_2 a0 a1 a2 a3 a4 a5 b0 b2 b3 b4 b6 b8 k2).1, upd ((aX2_passHour_2 a0 a1 a2 a3 a4 a5 b0 b2 b3 b4 b6 b8 k2).2.1) (nI k2).toNatClampNeg (0 : Int32), (aX2_passHour_2 a0 a1 a2 a3 a4 a5 b0 b2 b3 b4 b6 b8 k2).2.2.1, (aX2_passHour_2 a0 a1 a2 a3 a4 a5 b0 b2 b3 b4 b6 b8 k2).2.2.2) else (sX2_hearCase_1 ((aX2_passHour_2 a0 a1 a2 a3 a4 a5 b0 b2 b3 b4 b6 b8 k2).1) ((aX2_passHour_2 a0 a1 a2 a3 a4 a5 b0 b2 b3 b4 b6 b8 k2).2.2.2) b2 b3 b4 (((aX2_passHour_2 a0 a1 a2 a3 a4 a5 b0 b2 b3 b4 b6 b8 k2).1) (nI k2).toNatClampNeg) (rX0_depthAt b0 b6 (a0 (nI k2).toNatClampNeg) a5), upd ((aX2_passHour_2 a0 a1 a2 a3 a4 a5 b0 b2 b3 b4 b6 b8 k2).2.1) (nI k2).toNatClampNeg (0 : Int32), sX2_hearCase_3 ((aX2_passHour_2 a0 a1 a2 a3 a4 a5 b0 b2 b3 b4 b6 b8 k2).2.2.1) ((aX2_passHour_2 a0 a1 a2 a3 a4 a5 b0 b2 b3 b4 b6 b8 k2).2.2.2) b2 b3 b4 (((aX2_passHour_2 a0 a1 a2 a3 a4 a5 b0 b2 b3 b4 b6 b8 k2).1) (nI k2).toNatClampNeg) (rX0_depthAt b0 b6 (a0 (nI k2).toNatClampNeg) a5), sX2_hearCase_4 ((aX2_passHour_2 a0 a1 a2 a3 a4 a5 b0 b2 b3 b4 b6 b8 k2).2.2.2) b2 b3 b4 (((aX2_passHour_2 a0 a1 a2 a3 a4 a5 b0 b2 b3 b4 b6 b8 k2).1) (nI k2).toNatClampNeg) (rX0_depthAt b0 b6 (a0 (nI k2).toNatClampNeg) a5))
def sX2_passHour_1 (a0 a1 a2 a3 a4 : Nat → Int32) (a5 : Int32) (b0 b2 b3 b4 : Nat → Int32) (b6 b7 b8 : Int32) : Nat → Int32 := (aX2_passHour_2 a0 a1 a2 a3 a4 a5 b0 b2 b3 b4 b6 b8 b7.toNatClampNeg).1
def sX2_passHour_2 (a0 a1 a2 a3 a4 : Nat → Int32) (a5 : Int32) (b0 b2 b3 b4 : Nat → Int32) (b6 b7 b8 : Int32) : Nat → Int32 := (aX2_passHour_2 a0 a1 a2 a3 a4 a5 b0 b2 b3 b4 b6 b8 b7.toNatClampNeg).2.1
def sX2_passHour_3 (a0 a1 a2 a3 a4 : Nat → Int32) (a5 : Int32) (b0 b2 b3 b4 : Nat → Int32) (b6 b7 b8 : Int32) : Nat → Int32 := (aX2_passHour_2 a0 a1 a2 a3 a4 a5 b0 b2 b3 b4 b6 b8 b7.toNatClampNeg).2.2.1
def sX2_passHour_4 (a0 a1 a2 a3 a4 : Nat → Int32) (a5 : Int32) (b0 b2 b3 b4 : Nat → Int32) (b6 b7 b8 : Int32) : Nat → Int32 := (aX2_passHour_2 a0 a1 a2 a3 a4 a5 b0 b2 b3 b4 b6 b8 b7.toNatClampNeg).2.2.2
def sX2_passHour_5 (a5 : Int32) : Int32 := a5 + (1 : Int32)
set_option maxRecDepth 100000 in
set_option maxHeartbeats 4000000 in
theorem c_X2_passHour (l : Launch) (G : GT) (ad : Nat → Nat) (bd : Nat → Nat) (a0 a1 a2 a3 a4 : Nat → Int32) (a5 : Int32) (b0 b1 b2 b3 b4 b5 : Nat → Int32) (b6 b7 b8 : Int32) (h0 : 0 ≤ b7) (h1 : b7 ≤ 4) (hT : b6 ≤ 12) (h5 : b8 ≤ 5) : Cv l G yX2_passHour wsX2_passHour (rmL 2) [.ref (ad 0), .ref (bd 0)] (wX2 G ad a0 a1 a2 a3 a4 a5 ++ wX0 G bd b0 b1 b2 b3 b4 b5 b6 b7 b8) (wX2 G ad a0 (sX2_passHour_1 a0 a1 a2 a3 a4 a5 b0 b2 b3 b4 b6 b7 b8) (sX2_passHour_2 a0 a1 a2 a3 a4 a5 b0 b2 b3 b4 b6 b7 b8) (sX2_passHour_3 a0 a1 a2 a3 a4 a5 b0 b2 b3 b4 b6 b7 b8) (sX2_passHour_4 a0 a1 a2 a3 a4 a5 b0 b2 b3 b4 b6 b7 b8) (sX2_passHour_5 a5) ++ wX0 G bd b0 b1 b2 b3 b4 b5 b6 b7 b8) := by
  refine cv_start (by decide) rfl rfl (Nat.le_of_ble_eq_true rfl) ?_
  intro p e s m args below meth c A X
  have e2 := clampInt h0
  have hN := clampLe (n := 4) (b := 4) rfl h0 h1
  refine s_perm (lv2 := [(0, .ref (ad 0)), (1, .ref (bd 0))]) [0, 1] rfl ?_
  refine s_iconst X (pc := 0) (v := 0) dX2_passHour_0 (by decide) ?_
  refine s_istore_n X (pc := 1) (i := 2) (lv2 := [(2, .int (0 : Int32)), (0, .ref (ad 0)), (1, .ref (bd 0))]) dX2_passHour_1 rfl (by decide) rfl ?_
  refine s_perm (lv2 := [(0, .ref (ad 0)), (1, .ref (bd 0)), (2, .int (0 : Int32))]) [1, 2, 0] rfl ?_
  have L2 : ∀ (n2 k2 : Nat), k2 + n2 = b7.toNatClampNeg → Sm p l e (rmL 2) s m args below meth c G A 3 0 0 (Qcv below G A args s (wX2 G ad a0 (sX2_passHour_1 a0 a1 a2 a3 a4 a5 b0 b2 b3 b4 b6 b7 b8) (sX2_passHour_2 a0 a1 a2 a3 a4 a5 b0 b2 b3 b4 b6 b7 b8) (sX2_passHour_3 a0 a1 a2 a3 a4 a5 b0 b2 b3 b4 b6 b7 b8) (sX2_passHour_4 a0 a1 a2 a3 a4 a5 b0 b2 b3 b4 b6 b7 b8) (sX2_passHour_5 a5) ++ wX0 G bd b0 b1 b2 b3 b4 b5 b6 b7 b8)) 2 [(0, .ref (ad 0)), (1, .ref (bd 0)), (2, .int (nI k2))] [] (wX2 G ad a0 ((aX2_passHour_2 a0 a1 a2 a3 a4 a5 b0 b2 b3 b4 b6 b8 k2).1) ((aX2_passHour_2 a0 a1 a2 a3 a4 a5 b0 b2 b3 b4 b6 b8 k2).2.1) ((aX2_passHour_2 a0 a1 a2 a3 a4 a5 b0 b2 b3 b4 b6 b8 k2).2.2.1) ((aX2_passHour_2 a0 a1 a2 a3 a4 a5 b0 b2 b3 b4 b6 b8 k2).2.2.2) a5 ++ wX0 G bd b0 b1 b2 b3 b4 b5 b6 b7 b8) := by
    intro n2
    induction n2 with
    | zero =>
      intro k2 hk2
      have hK2 : k2 = b7.toNatClampNeg := by omega
      rw [hK2]
      have tk2 : (nI b7.toNatClampNeg).toInt = ((b7.toNatClampNeg : Nat) : Int) := nI_toInt (by omega)
      have eN2 : (b7).toInt = ((b7.toNatClampNeg : Nat) : Int) := e2
      refine s_iload_n X (pc := 2) (x := nI b7.toNatClampNeg) 2 dX2_passHour_2 rfl ?_
      refine s_aload_n X (pc := 3) (x := (bd 0)) 1 dX2_passHour_3 rfl ?_
      refine s_get X (pc := 4) (v := .int b7) iX2_passHour_X0 6 rfl rfl 7 (by decide) kX2_passHour_43 rfl rfl dX2_passHour_4 ?_
      refine s_icmp_ge X (pc := 7) (tgt := 66) dX2_passHour_7 (by decide) (fun c7 => ?_) (fun c7 => ?_)
      ·
        refine s_aload_n X (pc := 66) (x := (ad 0)) 0 dX2_passHour_66 rfl ?_
        refine s_dup X (pc := 67) dX2_passHour_67 rfl ?_
        refine s_get X (pc := 68) (v := .int a5) iX2_passHour_X2 0 rfl rfl 5 (by decide) kX2_passHour_33 rfl rfl dX2_passHour_68 ?_
        refine s_iconst X (pc := 71) (v := 1) dX2_passHour_71 (by decide) ?_
        refine s_iadd X (pc := 72) dX2_passHour_72 ?_
        refine s_put X (pc := 73) (v := .int (a5 + (1 : Int32))) (w2 := wX2 G ad a0 ((aX2_passHour_2 a0 a1 a2 a3 a4 a5 b0 b2 b3 b4 b6 b8 b7.toNatClampNeg).1) ((aX2_passHour_2 a0 a1 a2 a3 a4 a5 b0 b2 b3 b4 b6 b8 b7.toNatClampNeg).2.1) ((aX2_passHour_2 a0 a1 a2 a3 a4 a5 b0 b2 b3 b4 b6 b8 b7.toNatClampNeg).2.2.1) ((aX2_passHour_2 a0 a1 a2 a3 a4 a5 b0 b2 b3 b4 b6 b8 b7.toNatClampNeg).2.2.2) (a5 + (1 : Int32)) ++ wX0 G bd b0 b1 b2 b3 b4 b5 b6 b7 b8) iX2_passHour_X2 0 rfl rfl 5 (by decide) kX2_passHour_33 rfl tyX2 tyX2_ok nmX2 rfl (ty := .int) (by decide +kernel) rfl rfl (Nat.le_of_ble_eq_true rfl) rfl dX2_passHour_73 ?_
        exact s_vret X (pc := 76) dX2_passHour_76 (by rw [show sX2_passHour_1 a0 a1 a2 a3 a4 a5 b0 b2 b3 b4 b6 b7 b8 = (aX2_passHour_2 a0 a1 a2 a3 a4 a5 b0 b2 b3 b4 b6 b8 b7.toNatClampNeg).1 from rfl, show sX2_passHour_2 a0 a1 a2 a3 a4 a5 b0 b2 b3 b4 b6 b7 b8 = (aX2_passHour_2 a0 a1 a2 a3 a4 a5 b0 b2 b3 b4 b6 b8 b7.toNatClampNeg).2.1 from rfl, show sX2_passHour_3 a0 a1 a2 a3 a4 a5 b0 b2 b3 b4 b6 b7 b8 = (aX2_passHour_2 a0 a1 a2 a3 a4 a5 b0 b2 b3 b4 b6 b8 b7.toNatClampNeg).2.2.1 from rfl, show sX2_passHour_4 a0 a1 a2 a3 a4 a5 b0 b2 b3 b4 b6 b7 b8 = (aX2_passHour_2 a0 a1 a2 a3 a4 a5 b0 b2 b3 b4 b6 b8 b7.toNatClampNeg).2.2.2 from rfl, show sX2_passHour_5 a5 = a5 + (1 : Int32) from rfl])
      ·
        exact absurd ((t_le eN2 tk2).mpr (by omega)) c7
    | succ n2 ih2 =>
      intro k2 hk2
      have hlt2 : k2 < b7.toNatClampNeg := by omega
      have tk2 : (nI k2).toInt = ((k2 : Nat) : Int) := nI_toInt (by omega)
      have eN2 : (b7).toInt = ((b7.toNatClampNeg : Nat) : Int) := e2
      refine s_iload_n X (pc := 2) (x := nI k2) 2 dX2_passHour_2 rfl ?_
      refine s_aload_n X (pc := 3) (x := (bd 0)) 1 dX2_passHour_3 rfl ?_
      refine s_get X (pc := 4) (v := .int b7) iX2_passHour_X0 6 rfl rfl 7 (by decide) kX2_passHour_43 rfl rfl dX2_passHour_4 ?_
      refine s_icmp_ge X (pc := 7) (tgt := 66) dX2_passHour_7 (by decide) (fun c7 => ?_) (fun c7 => ?_)
      ·
        exact absurd ((t_le eN2 tk2).mp c7) (by omega)
      ·
        refine s_iload_n X (pc := 10) (x := nI k2) 2 dX2_passHour_10 rfl ?_
        refine s_iconst X (pc := 11) (v := 4) dX2_passHour_11 (by decide) ?_
        refine s_icmp_ge X (pc := 12) (tgt := 66) dX2_passHour_12 (by decide) (fun c12 => ?_) (fun c12 => ?_)
        ·
          exact absurd ((t_le (x := 4) rfl tk2).mp c12) (by omega)
        ·
          refine s_aload_n X (pc := 15) (x := (bd 0)) 1 dX2_passHour_15 rfl ?_
          refine s_aload_n X (pc := 16) (x := (ad 0)) 0 dX2_passHour_16 rfl ?_
          refine s_get X (pc := 17) (v := .ref (ad 2)) iX2_passHour_X2 0 rfl rfl 1 (by decide) kX2_passHour_15 rfl rfl dX2_passHour_17 ?_
          refine s_iload_n X (pc := 20) (x := nI k2) 2 dX2_passHour_20 rfl ?_
          refine s_iald X (pc := 21) (n := 4) (f := (aX2_passHour_2 a0 a1 a2 a3 a4 a5 b0 b2 b3 b4 b6 b8 k2).1) 2 rfl (vp_in_nI (by omega) (by decide)) dX2_passHour_21 ?_
          refine s_callVi X (pc := 22) (r := rX0_hasCase b8 (((aX2_passHour_2 a0 a1 a2 a3 a4 a5 b0 b2 b3 b4 b6 b8 k2).1) (nI k2).toNatClampNeg)) (w := wX2 G ad a0 ((aX2_passHour_2 a0 a1 a2 a3 a4 a5 b0 b2 b3 b4 b6 b8 k2).1) ((aX2_passHour_2 a0 a1 a2 a3 a4 a5 b0 b2 b3 b4 b6 b8 k2).2.1) ((aX2_passHour_2 a0 a1 a2 a3 a4 a5 b0 b2 b3 b4 b6 b8 k2).2.2.1) ((aX2_passHour_2 a0 a1 a2 a3 a4 a5 b0 b2 b3 b4 b6 b8 k2).2.2.2) a5 ++ wX0 G bd b0 b1 b2 b3 b4 b5 b6 b7 b8) (n := 1) (st := []) (As := [.int (((aX2_passHour_2 a0 a1 a2 a3 a4 a5 b0 b2 b3 b4 b6 b8 k2).1) (nI k2).toNatClampNeg)]) (w2 := wX2 G ad a0 ((aX2_passHour_2 a0 a1 a2 a3 a4 a5 b0 b2 b3 b4 b6 b8 k2).1) ((aX2_passHour_2 a0 a1 a2 a3 a4 a5 b0 b2 b3 b4 b6 b8 k2).2.1) ((aX2_passHour_2 a0 a1 a2 a3 a4 a5 b0 b2 b3 b4 b6 b8 k2).2.2.1) ((aX2_passHour_2 a0 a1 a2 a3 a4 a5 b0 b2 b3 b4 b6 b8 k2).2.2.2) a5 ++ wX0 G bd b0 b1 b2 b3 b4 b5 b6 b7 b8) 0 (c_X0_hasCase l G bd b0 b1 b2 b3 b4 b5 b6 b7 b8 (((aX2_passHour_2 a0 a1 a2 a3 a4 a5 b0 b2 b3 b4 b6 b8 k2).1) (nI k2).toNatClampNeg)) gX2_passHour_X0_hasCase rfl (by decide +kernel) ⟨Nat.le_of_ble_eq_true rfl, Nat.le_of_ble_eq_true rfl⟩ 0 rfl rfl [6, 7, 8, 9, 10, 11, 12] rfl rfl rfl rfl [ad 0, ad 1, ad 2, ad 3, ad 4, ad 5, bd 0, bd 1, bd 2, bd 3, bd 4, bd 5, bd 6] rfl rfl rfl rfl (Nat.le_of_ble_eq_true rfl) (Nat.zero_le _) (Nat.zero_le _) dX2_passHour_22 ?_
          refine s_if_eq X (pc := 25) (tgt := 53) dX2_passHour_25 (by decide) (fun c25 => ?_) (fun c25 => ?_)
          ·
            refine s_aload_n X (pc := 53) (x := (ad 0)) 0 dX2_passHour_53 rfl ?_
            refine s_get X (pc := 54) (v := .ref (ad 3)) iX2_passHour_X2 0 rfl rfl 2 (by decide) kX2_passHour_18 rfl rfl dX2_passHour_54 ?_
            refine s_iload_n X (pc := 57) (x := nI k2) 2 dX2_passHour_57 rfl ?_
            refine s_iconst X (pc := 58) (v := 0) dX2_passHour_58 (by decide) ?_
            refine s_iast X (pc := 59) (n := 4) (f := (aX2_passHour_2 a0 a1 a2 a3 a4 a5 b0 b2 b3 b4 b6 b8 k2).2.1) (w2 := wX2 G ad a0 ((aX2_passHour_2 a0 a1 a2 a3 a4 a5 b0 b2 b3 b4 b6 b8 k2).1) (upd ((aX2_passHour_2 a0 a1 a2 a3 a4 a5 b0 b2 b3 b4 b6 b8 k2).2.1) (nI k2).toNatClampNeg (0 : Int32)) ((aX2_passHour_2 a0 a1 a2 a3 a4 a5 b0 b2 b3 b4 b6 b8 k2).2.2.1) ((aX2_passHour_2 a0 a1 a2 a3 a4 a5 b0 b2 b3 b4 b6 b8 k2).2.2.2) a5 ++ wX0 G bd b0 b1 b2 b3 b4 b5 b6 b7 b8) 3 rfl (vp_in_nI (by omega) (by decide)) rfl dX2_passHour_59 ?_
            refine s_iinc X (pc := 60) (v := nI (k2 + 1)) (lv2 := [(2, .int (nI (k2 + 1))), (0, .ref (ad 0)), (1, .ref (bd 0))]) 2 dX2_passHour_60 rfl (nI_1 _) (by decide) rfl ?_
            refine s_goto X (pc := 63) (tgt := 2) dX2_passHour_63 (by decide) ?_
            refine s_perm (lv2 := [(0, .ref (ad 0)), (1, .ref (bd 0)), (2, .int (nI (k2 + 1)))]) [1, 2, 0] rfl ?_
            have hb2 : (aX2_passHour_2 a0 a1 a2 a3 a4 a5 b0 b2 b3 b4 b6 b8 (k2 + 1)) = ((aX2_passHour_2 a0 a1 a2 a3 a4 a5 b0 b2 b3 b4 b6 b8 k2).1, upd ((aX2_passHour_2 a0 a1 a2 a3 a4 a5 b0 b2 b3 b4 b6 b8 k2).2.1) (nI k2).toNatClampNeg (0 : Int32), (aX2_passHour_2 a0 a1 a2 a3 a4 a5 b0 b2 b3 b4 b6 b8 k2).2.2.1, (aX2_passHour_2 a0 a1 a2 a3 a4 a5 b0 b2 b3 b4 b6 b8 k2).2.2.2) := by rw [aX2_passHour_2]; exact (if_pos c25)
            refine s_cast (lv2 := [(0, .ref (ad 0)), (1, .ref (bd 0)), (2, .int (nI (k2 + 1)))]) (w2 := wX2 G ad a0 ((aX2_passHour_2 a0 a1 a2 a3 a4 a5 b0 b2 b3 b4 b6 b8 (k2 + 1)).1) ((aX2_passHour_2 a0 a1 a2 a3 a4 a5 b0 b2 b3 b4 b6 b8 (k2 + 1)).2.1) ((aX2_passHour_2 a0 a1 a2 a3 a4 a5 b0 b2 b3 b4 b6 b8 (k2 + 1)).2.2.1) ((aX2_passHour_2 a0 a1 a2 a3 a4 a5 b0 b2 b3 b4 b6 b8 (k2 + 1)).2.2.2) a5 ++ wX0 G bd b0 b1 b2 b3 b4 b5 b6 b7 b8) (by first | (rw [hb2]; done) | rfl) (by first | (rw [hb2]; done) | rfl) ?_
            exact ih2 (k2 + 1) (by omega)
          ·
            refine s_aload_n X (pc := 28) (x := (ad 0)) 0 dX2_passHour_28 rfl ?_
            refine s_aload_n X (pc := 29) (x := (bd 0)) 1 dX2_passHour_29 rfl ?_
            refine s_aload_n X (pc := 30) (x := (ad 0)) 0 dX2_passHour_30 rfl ?_
            refine s_get X (pc := 31) (v := .ref (ad 2)) iX2_passHour_X2 0 rfl rfl 1 (by decide) kX2_passHour_15 rfl rfl dX2_passHour_31 ?_
            refine s_iload_n X (pc := 34) (x := nI k2) 2 dX2_passHour_34 rfl ?_
            refine s_iald X (pc := 35) (n := 4) (f := (aX2_passHour_2 a0 a1 a2 a3 a4 a5 b0 b2 b3 b4 b6 b8 k2).1) 2 rfl (vp_in_nI (by omega) (by decide)) dX2_passHour_35 ?_
            refine s_aload_n X (pc := 36) (x := (bd 0)) 1 dX2_passHour_36 rfl ?_
            refine s_aload_n X (pc := 37) (x := (ad 0)) 0 dX2_passHour_37 rfl ?_
            refine s_get X (pc := 38) (v := .ref (ad 1)) iX2_passHour_X2 0 rfl rfl 0 (by decide) kX2_passHour_9 rfl rfl dX2_passHour_38 ?_
            refine s_iload_n X (pc := 41) (x := nI k2) 2 dX2_passHour_41 rfl ?_
            refine s_iald X (pc := 42) (n := 4) (f := a0) 1 rfl (vp_in_nI (by omega) (by decide)) dX2_passHour_42 ?_
            refine s_aload_n X (pc := 43) (x := (ad 0)) 0 dX2_passHour_43 rfl ?_
            refine s_get X (pc := 44) (v := .int a5) iX2_passHour_X2 0 rfl rfl 5 (by decide) kX2_passHour_33 rfl rfl dX2_passHour_44 ?_
            refine s_callVi X (pc := 47) (r := rX0_depthAt b0 b6 (a0 (nI k2).toNatClampNeg) a5) (w := wX2 G ad a0 ((aX2_passHour_2 a0 a1 a2 a3 a4 a5 b0 b2 b3 b4 b6 b8 k2).1) ((aX2_passHour_2 a0 a1 a2 a3 a4 a5 b0 b2 b3 b4 b6 b8 k2).2.1) ((aX2_passHour_2 a0 a1 a2 a3 a4 a5 b0 b2 b3 b4 b6 b8 k2).2.2.1) ((aX2_passHour_2 a0 a1 a2 a3 a4 a5 b0 b2 b3 b4 b6 b8 k2).2.2.2) a5 ++ wX0 G bd b0 b1 b2 b3 b4 b5 b6 b7 b8) (n := 2) (st := [.int (((aX2_passHour_2 a0 a1 a2 a3 a4 a5 b0 b2 b3 b4 b6 b8 k2).1) (nI k2).toNatClampNeg), .ref (bd 0), .ref (ad 0)]) (As := [.int (a0 (nI k2).toNatClampNeg), .int a5]) (w2 := wX2 G ad a0 ((aX2_passHour_2 a0 a1 a2 a3 a4 a5 b0 b2 b3 b4 b6 b8 k2).1) ((aX2_passHour_2 a0 a1 a2 a3 a4 a5 b0 b2 b3 b4 b6 b8 k2).2.1) ((aX2_passHour_2 a0 a1 a2 a3 a4 a5 b0 b2 b3 b4 b6 b8 k2).2.2.1) ((aX2_passHour_2 a0 a1 a2 a3 a4 a5 b0 b2 b3 b4 b6 b8 k2).2.2.2) a5 ++ wX0 G bd b0 b1 b2 b3 b4 b5 b6 b7 b8) 0 (c_X0_depthAt l G bd b0 b1 b2 b3 b4 b5 b6 b7 b8 (a0 (nI k2).toNatClampNeg) a5 hT) gX2_passHour_X0_depthAt rfl (by decide +kernel) ⟨Nat.le_of_ble_eq_true rfl, Nat.le_of_ble_eq_true rfl⟩ 0 rfl rfl [6, 7, 8, 9, 10, 11, 12] rfl rfl rfl rfl [ad 0, ad 1, ad 2, ad 3, ad 4, ad 5, bd 0, bd 1, bd 2, bd 3, bd 4, bd 5, bd 6] rfl rfl rfl rfl (Nat.le_of_ble_eq_true rfl) (Nat.zero_le _) (Nat.zero_le _) dX2_passHour_47 ?_
            refine s_callVv0 X (pc := 50) (w := wX2 G ad a0 ((aX2_passHour_2 a0 a1 a2 a3 a4 a5 b0 b2 b3 b4 b6 b8 k2).1) ((aX2_passHour_2 a0 a1 a2 a3 a4 a5 b0 b2 b3 b4 b6 b8 k2).2.1) ((aX2_passHour_2 a0 a1 a2 a3 a4 a5 b0 b2 b3 b4 b6 b8 k2).2.2.1) ((aX2_passHour_2 a0 a1 a2 a3 a4 a5 b0 b2 b3 b4 b6 b8 k2).2.2.2) a5 ++ wX0 G bd b0 b1 b2 b3 b4 b5 b6 b7 b8) (n := 3) (st := []) (As := [.ref (bd 0), .int (((aX2_passHour_2 a0 a1 a2 a3 a4 a5 b0 b2 b3 b4 b6 b8 k2).1) (nI k2).toNatClampNeg), .int (rX0_depthAt b0 b6 (a0 (nI k2).toNatClampNeg) a5)]) (w2 := wX2 G ad a0 (sX2_hearCase_1 ((aX2_passHour_2 a0 a1 a2 a3 a4 a5 b0 b2 b3 b4 b6 b8 k2).1) ((aX2_passHour_2 a0 a1 a2 a3 a4 a5 b0 b2 b3 b4 b6 b8 k2).2.2.2) b2 b3 b4 (((aX2_passHour_2 a0 a1 a2 a3 a4 a5 b0 b2 b3 b4 b6 b8 k2).1) (nI k2).toNatClampNeg) (rX0_depthAt b0 b6 (a0 (nI k2).toNatClampNeg) a5)) ((aX2_passHour_2 a0 a1 a2 a3 a4 a5 b0 b2 b3 b4 b6 b8 k2).2.1) (sX2_hearCase_3 ((aX2_passHour_2 a0 a1 a2 a3 a4 a5 b0 b2 b3 b4 b6 b8 k2).2.2.1) ((aX2_passHour_2 a0 a1 a2 a3 a4 a5 b0 b2 b3 b4 b6 b8 k2).2.2.2) b2 b3 b4 (((aX2_passHour_2 a0 a1 a2 a3 a4 a5 b0 b2 b3 b4 b6 b8 k2).1) (nI k2).toNatClampNeg) (rX0_depthAt b0 b6 (a0 (nI k2).toNatClampNeg) a5)) (sX2_hearCase_4 ((aX2_passHour_2 a0 a1 a2 a3 a4 a5 b0 b2 b3 b4 b6 b8 k2).2.2.2) b2 b3 b4 (((aX2_passHour_2 a0 a1 a2 a3 a4 a5 b0 b2 b3 b4 b6 b8 k2).1) (nI k2).toNatClampNeg) (rX0_depthAt b0 b6 (a0 (nI k2).toNatClampNeg) a5)) a5 ++ wX0 G bd b0 b1 b2 b3 b4 b5 b6 b7 b8) 1 (c_X2_hearCase l G ad bd a0 ((aX2_passHour_2 a0 a1 a2 a3 a4 a5 b0 b2 b3 b4 b6 b8 k2).1) ((aX2_passHour_2 a0 a1 a2 a3 a4 a5 b0 b2 b3 b4 b6 b8 k2).2.1) ((aX2_passHour_2 a0 a1 a2 a3 a4 a5 b0 b2 b3 b4 b6 b8 k2).2.2.1) ((aX2_passHour_2 a0 a1 a2 a3 a4 a5 b0 b2 b3 b4 b6 b8 k2).2.2.2) a5 b0 b1 b2 b3 b4 b5 b6 b7 b8 (((aX2_passHour_2 a0 a1 a2 a3 a4 a5 b0 b2 b3 b4 b6 b8 k2).1) (nI k2).toNatClampNeg) (rX0_depthAt b0 b6 (a0 (nI k2).toNatClampNeg) a5) (hasCase_in h5 c25)) gX2_passHour_X2_hearCase rfl (by decide +kernel) ⟨Nat.le_of_ble_eq_true rfl, Nat.le_of_ble_eq_true rfl⟩ 0 rfl rfl rfl rfl (Nat.le_of_ble_eq_true rfl) (Nat.zero_le _) (Nat.zero_le _) dX2_passHour_50 ?_
            refine s_aload_n X (pc := 53) (x := (ad 0)) 0 dX2_passHour_53 rfl ?_
            refine s_get X (pc := 54) (v := .ref (ad 3)) iX2_passHour_X2 0 rfl rfl 2 (by decide) kX2_passHour_18 rfl rfl dX2_passHour_54 ?_
            refine s_iload_n X (pc := 57) (x := nI k2) 2 dX2_passHour_57 rfl ?_
            refine s_iconst X (pc := 58) (v := 0) dX2_passHour_58 (by decide) ?_
            refine s_iast X (pc := 59) (n := 4) (f := (aX2_passHour_2 a0 a1 a2 a3 a4 a5 b0 b2 b3 b4 b6 b8 k2).2.1) (w2 := wX2 G ad a0 (sX2_hearCase_1 ((aX2_passHour_2 a0 a1 a2 a3 a4 a5 b0 b2 b3 b4 b6 b8 k2).1) ((aX2_passHour_2 a0 a1 a2 a3 a4 a5 b0 b2 b3 b4 b6 b8 k2).2.2.2) b2 b3 b4 (((aX2_passHour_2 a0 a1 a2 a3 a4 a5 b0 b2 b3 b4 b6 b8 k2).1) (nI k2).toNatClampNeg) (rX0_depthAt b0 b6 (a0 (nI k2).toNatClampNeg) a5)) (upd ((aX2_passHour_2 a0 a1 a2 a3 a4 a5 b0 b2 b3 b4 b6 b8 k2).2.1) (nI k2).toNatClampNeg (0 : Int32)) (sX2_hearCase_3 ((aX2_passHour_2 a0 a1 a2 a3 a4 a5 b0 b2 b3 b4 b6 b8 k2).2.2.1) ((aX2_passHour_2 a0 a1 a2 a3 a4 a5 b0 b2 b3 b4 b6 b8 k2).2.2.2) b2 b3 b4 (((aX2_passHour_2 a0 a1 a2 a3 a4 a5 b0 b2 b3 b4 b6 b8 k2).1) (nI k2).toNatClampNeg) (rX0_depthAt b0 b6 (a0 (nI k2).toNatClampNeg) a5)) (sX2_hearCase_4 ((aX2_passHour_2 a0 a1 a2 a3 a4 a5 b0 b2 b3 b4 b6 b8 k2).2.2.2) b2 b3 b4 (((aX2_passHour_2 a0 a1 a2 a3 a4 a5 b0 b2 b3 b4 b6 b8 k2).1) (nI k2).toNatClampNeg) (rX0_depthAt b0 b6 (a0 (nI k2).toNatClampNeg) a5)) a5 ++ wX0 G bd b0 b1 b2 b3 b4 b5 b6 b7 b8) 3 rfl (vp_in_nI (by omega) (by decide)) rfl dX2_passHour_59 ?_
            refine s_iinc X (pc := 60) (v := nI (k2 + 1)) (lv2 := [(2, .int (nI (k2 + 1))), (0, .ref (ad 0)), (1, .ref (bd 0))]) 2 dX2_passHour_60 rfl (nI_1 _) (by decide) rfl ?_
            refine s_goto X (pc := 63) (tgt := 2) dX2_passHour_63 (by decide) ?_
            refine s_perm (lv2 := [(0, .ref (ad 0)), (1, .ref (bd 0)), (2, .int (nI (k2 + 1)))]) [1, 2, 0] rfl ?_
            have hb2 : (aX2_passHour_2 a0 a1 a2 a3 a4 a5 b0 b2 b3 b4 b6 b8 (k2 + 1)) = (sX2_hearCase_1 ((aX2_passHour_2 a0 a1 a2 a3 a4 a5 b0 b2 b3 b4 b6 b8 k2).1) ((aX2_passHour_2 a0 a1 a2 a3 a4 a5 b0 b2 b3 b4 b6 b8 k2).2.2.2) b2 b3 b4 (((aX2_passHour_2 a0 a1 a2 a3 a4 a5 b0 b2 b3 b4 b6 b8 k2).1) (nI k2).toNatClampNeg) (rX0_depthAt b0 b6 (a0 (nI k2).toNatClampNeg) a5), upd ((aX2_passHour_2 a0 a1 a2 a3 a4 a5 b0 b2 b3 b4 b6 b8 k2).2.1) (nI k2).toNatClampNeg (0 : Int32), sX2_hearCase_3 ((aX2_passHour_2 a0 a1 a2 a3 a4 a5 b0 b2 b3 b4 b6 b8 k2).2.2.1) ((aX2_passHour_2 a0 a1 a2 a3 a4 a5 b0 b2 b3 b4 b6 b8 k2).2.2.2) b2 b3 b4 (((aX2_passHour_2 a0 a1 a2 a3 a4 a5 b0 b2 b3 b4 b6 b8 k2).1) (nI k2).toNatClampNeg) (rX0_depthAt b0 b6 (a0 (nI k2).toNatClampNeg) a5), sX2_hearCase_4 ((aX2_passHour_2 a0 a1 a2 a3 a4 a5 b0 b2 b3 b4 b6 b8 k2).2.2.2) b2 b3 b4 (((aX2_passHour_2 a0 a1 a2 a3 a4 a5 b0 b2 b3 b4 b6 b8 k2).1) (nI k2).toNatClampNeg) (rX0_depthAt b0 b6 (a0 (nI k2).toNatClampNeg) a5)) := by rw [aX2_passHour_2]; exact (if_neg c25)
            refine s_cast (lv2 := [(0, .ref (ad 0)), (1, .ref (bd 0)), (2, .int (nI (k2 + 1)))]) (w2 := wX2 G ad a0 ((aX2_passHour_2 a0 a1 a2 a3 a4 a5 b0 b2 b3 b4 b6 b8 (k2 + 1)).1) ((aX2_passHour_2 a0 a1 a2 a3 a4 a5 b0 b2 b3 b4 b6 b8 (k2 + 1)).2.1) ((aX2_passHour_2 a0 a1 a2 a3 a4 a5 b0 b2 b3 b4 b6 b8 (k2 + 1)).2.2.1) ((aX2_passHour_2 a0 a1 a2 a3 a4 a5 b0 b2 b3 b4 b6 b8 (k2 + 1)).2.2.2) a5 ++ wX0 G bd b0 b1 b2 b3 b4 b5 b6 b7 b8) (by first | (rw [hb2]; done) | rfl) (by first | (rw [hb2]; done) | rfl) ?_
            exact ih2 (k2 + 1) (by omega)
  exact L2 b7.toNatClampNeg 0 (Nat.zero_add _)

theorem iX2_saveTo_X2 : ∀ z ∈ wsX20, z ∈ wsX2_saveTo := fun z h => List.mem_cons_of_mem _ (List.mem_append_right _ h)
theorem kX2_saveTo_9 : Cond.fieldLink RX2 9 "BathingCourt$Day" (TX2 0).2.1 (TX2 0).2.2.1 ∈ wsX2_saveTo := List.mem_of_getElem? (i := 1) rfl
theorem kX2_saveTo_m74 : Cond.methodLink RX2 74 arraycopyName ∈ wsX2_saveTo := List.mem_of_getElem? (i := 2) rfl
theorem kX2_saveTo_naac : Cond.native arraycopyName ∈ wsX2_saveTo := List.mem_of_getElem? (i := 3) rfl
theorem kX2_saveTo_stac : Cond.static arraycopyName ∈ wsX2_saveTo := List.mem_of_getElem? (i := 4) rfl
theorem kX2_saveTo_inSys : Cond.initialized "java/lang/System" ∈ wsX2_saveTo := List.mem_of_getElem? (i := 5) rfl
theorem kX2_saveTo_15 : Cond.fieldLink RX2 15 "BathingCourt$Day" (TX2 1).2.1 (TX2 1).2.2.1 ∈ wsX2_saveTo := List.mem_of_getElem? (i := 6) rfl
theorem kX2_saveTo_18 : Cond.fieldLink RX2 18 "BathingCourt$Day" (TX2 2).2.1 (TX2 2).2.2.1 ∈ wsX2_saveTo := List.mem_of_getElem? (i := 7) rfl
theorem kX2_saveTo_21 : Cond.fieldLink RX2 21 "BathingCourt$Day" (TX2 3).2.1 (TX2 3).2.2.1 ∈ wsX2_saveTo := List.mem_of_getElem? (i := 8) rfl
theorem kX2_saveTo_24 : Cond.fieldLink RX2 24 "BathingCourt$Day" (TX2 4).2.1 (TX2 4).2.2.1 ∈ wsX2_saveTo := List.mem_of_getElem? (i := 9) rfl
theorem kX2_saveTo_33 : Cond.fieldLink RX2 33 "BathingCourt$Day" (TX2 5).2.1 (TX2 5).2.2.1 ∈ wsX2_saveTo := List.mem_of_getElem? (i := 10) rfl
def sX2_saveTo_free_rows (a0 a1 a2 a3 a4 : Nat → Int32) (a5 : Int32) (fr : Nat → Int32) (p0 : Int32) : Nat → Int32 := upd (va_cpy a4 (va_cpy a3 (va_cpy a2 (va_cpy a1 (va_cpy a0 fr (0 : Int32).toNatClampNeg p0.toNatClampNeg (4 : Int32).toNatClampNeg) (0 : Int32).toNatClampNeg (p0 + (4 : Int32)).toNatClampNeg (4 : Int32).toNatClampNeg) (0 : Int32).toNatClampNeg (p0 + (8 : Int32)).toNatClampNeg (4 : Int32).toNatClampNeg) (0 : Int32).toNatClampNeg (p0 + (12 : Int32)).toNatClampNeg (5 : Int32).toNatClampNeg) (0 : Int32).toNatClampNeg ((p0 + (12 : Int32)) + (5 : Int32)).toNatClampNeg (5 : Int32).toNatClampNeg) ((p0 + (23 : Int32)) - (1 : Int32)).toNatClampNeg a5
set_option maxRecDepth 100000 in
set_option maxHeartbeats 4000000 in
theorem c_X2_saveTo (l : Launch) (G : GT) (ad : Nat → Nat) (ar : Nat) (a0 a1 a2 a3 a4 : Nat → Int32) (a5 : Int32) (nr : Nat) (fr : Nat → Int32) (p0 : Int32) (a : Nat) (hp : p0 = nI a) (ha : a + 23 ≤ nr) (hnr : nr ≤ 460) : Cv l G yX2_saveTo wsX2_saveTo (rmL 0) [.ref (ad 0), .ref ar, .int p0] (wX2 G ad a0 a1 a2 a3 a4 a5 ++ [(ar, .inl (G.2.1, nr, .inl fr))]) (wX2 G ad a0 a1 a2 a3 a4 a5 ++ [(ar, .inl (G.2.1, nr, .inl (sX2_saveTo_free_rows a0 a1 a2 a3 a4 a5 fr p0)))]) := by
  refine cv_start (by decide) rfl rfl (Nat.le_of_ble_eq_true rfl) ?_
  intro p e s m args below meth c A X
  refine s_perm (lv2 := [(0, .ref (ad 0)), (1, .ref ar), (2, .int p0)]) [0, 1, 2] rfl ?_
  refine s_iload_n X (pc := 0) (x := p0) 2 dX2_saveTo_0 rfl ?_
  refine s_if_lt X (pc := 1) (tgt := 13) dX2_saveTo_1 (by decide) (fun c1 => ?_) (fun c1 => ?_)
  ·
    exact absurd c1 (by rw [hp]; exact nI_pos (by omega))
  ·
    refine s_iload_n X (pc := 4) (x := p0) 2 dX2_saveTo_4 rfl ?_
    refine s_aload_n X (pc := 5) (x := ar) 1 dX2_saveTo_5 rfl ?_
    refine s_alen X (pc := 6) (n := nr) (f := fr) 6 rfl dX2_saveTo_6 ?_
    refine s_bipush X (pc := 7) (v := 23) dX2_saveTo_7 (by decide) ?_
    refine s_isub X (pc := 9) dX2_saveTo_9 ?_
    refine s_icmp_le X (pc := 10) (tgt := 14) dX2_saveTo_10 (by decide) (fun c10 => ?_) (fun c10 => ?_)
    ·
      refine s_aload_n X (pc := 14) (x := (ad 0)) 0 dX2_saveTo_14 rfl ?_
      refine s_get X (pc := 15) (v := .ref (ad 1)) iX2_saveTo_X2 0 rfl rfl 0 (by decide) kX2_saveTo_9 rfl rfl dX2_saveTo_15 ?_
      refine s_iconst X (pc := 18) (v := 0) dX2_saveTo_18 (by decide) ?_
      refine s_aload_n X (pc := 19) (x := ar) 1 dX2_saveTo_19 rfl ?_
      refine s_iload_n X (pc := 20) (x := p0) 2 dX2_saveTo_20 rfl ?_
      refine s_iconst X (pc := 21) (v := 4) dX2_saveTo_21 (by decide) ?_
      refine s_copy X (pc := 22) (n0 := 4) (n1 := nr) (f := a0) (g := fr) (w2 := wX2 G ad a0 a1 a2 a3 a4 a5 ++ [(ar, .inl (G.2.1, nr, .inl (va_cpy a0 fr (0 : Int32).toNatClampNeg p0.toNatClampNeg (4 : Int32).toNatClampNeg)))]) kX2_saveTo_m74 kX2_saveTo_naac kX2_saveTo_stac kX2_saveTo_inSys 1 6 rfl rfl (by decide) (by rw [hp]; exact nI_pos (by omega)) (by decide) (by decide) (by rw [hp, nI_clamp (by omega)]; show a + 4 ≤ nr; omega) (Nat.le_of_ble_eq_true rfl) (Nat.le_of_ble_eq_true rfl) rfl dX2_saveTo_22 ?_
      refine s_aload_n X (pc := 25) (x := (ad 0)) 0 dX2_saveTo_25 rfl ?_
      refine s_get X (pc := 26) (v := .ref (ad 2)) iX2_saveTo_X2 0 rfl rfl 1 (by decide) kX2_saveTo_15 rfl rfl dX2_saveTo_26 ?_
      refine s_iconst X (pc := 29) (v := 0) dX2_saveTo_29 (by decide) ?_
      refine s_aload_n X (pc := 30) (x := ar) 1 dX2_saveTo_30 rfl ?_
      refine s_iload_n X (pc := 31) (x := p0) 2 dX2_saveTo_31 rfl ?_
      refine s_iconst X (pc := 32) (v := 4) dX2_saveTo_32 (by decide) ?_
      refine s_iadd X (pc := 33) dX2_saveTo_33 ?_
      refine s_iconst X (pc := 34) (v := 4) dX2_saveTo_34 (by decide) ?_
      refine s_copy X (pc := 35) (n0 := 4) (n1 := nr) (f := a1) (g := va_cpy a0 fr (0 : Int32).toNatClampNeg p0.toNatClampNeg (4 : Int32).toNatClampNeg) (w2 := wX2 G ad a0 a1 a2 a3 a4 a5 ++ [(ar, .inl (G.2.1, nr, .inl (va_cpy a1 (va_cpy a0 fr (0 : Int32).toNatClampNeg p0.toNatClampNeg (4 : Int32).toNatClampNeg) (0 : Int32).toNatClampNeg (p0 + (4 : Int32)).toNatClampNeg (4 : Int32).toNatClampNeg)))]) kX2_saveTo_m74 kX2_saveTo_naac kX2_saveTo_stac kX2_saveTo_inSys 2 6 rfl rfl (by decide) (by rw [hp, show nI a + 4 = nI (a + 4) from nI_add a 4]; exact nI_pos (by omega)) (by decide) (by decide) (by rw [hp, show nI a + 4 = nI (a + 4) from nI_add a 4, nI_clamp (by omega)]; show a + 4 + 4 ≤ nr; omega) (Nat.le_of_ble_eq_true rfl) (Nat.le_of_ble_eq_true rfl) rfl dX2_saveTo_35 ?_
      refine s_aload_n X (pc := 38) (x := (ad 0)) 0 dX2_saveTo_38 rfl ?_
      refine s_get X (pc := 39) (v := .ref (ad 3)) iX2_saveTo_X2 0 rfl rfl 2 (by decide) kX2_saveTo_18 rfl rfl dX2_saveTo_39 ?_
      refine s_iconst X (pc := 42) (v := 0) dX2_saveTo_42 (by decide) ?_
      refine s_aload_n X (pc := 43) (x := ar) 1 dX2_saveTo_43 rfl ?_
      refine s_iload_n X (pc := 44) (x := p0) 2 dX2_saveTo_44 rfl ?_
      refine s_bipush X (pc := 45) (v := 8) dX2_saveTo_45 (by decide) ?_
      refine s_iadd X (pc := 47) dX2_saveTo_47 ?_
      refine s_iconst X (pc := 48) (v := 4) dX2_saveTo_48 (by decide) ?_
      refine s_copy X (pc := 49) (n0 := 4) (n1 := nr) (f := a2) (g := va_cpy a1 (va_cpy a0 fr (0 : Int32).toNatClampNeg p0.toNatClampNeg (4 : Int32).toNatClampNeg) (0 : Int32).toNatClampNeg (p0 + (4 : Int32)).toNatClampNeg (4 : Int32).toNatClampNeg) (w2 := wX2 G ad a0 a1 a2 a3 a4 a5 ++ [(ar, .inl (G.2.1, nr, .inl (va_cpy a2 (va_cpy a1 (va_cpy a0 fr (0 : Int32).toNatClampNeg p0.toNatClampNeg (4 : Int32).toNatClampNeg) (0 : Int32).toNatClampNeg (p0 + (4 : Int32)).toNatClampNeg (4 : Int32).toNatClampNeg) (0 : Int32).toNatClampNeg (p0 + (8 : Int32)).toNatClampNeg (4 : Int32).toNatClampNeg)))]) kX2_saveTo_m74 kX2_saveTo_naac kX2_saveTo_stac kX2_saveTo_inSys 3 6 rfl rfl (by decide) (by rw [hp, show nI a + 8 = nI (a + 8) from nI_add a 8]; exact nI_pos (by omega)) (by decide) (by decide) (by rw [hp, show nI a + 8 = nI (a + 8) from nI_add a 8, nI_clamp (by omega)]; show a + 8 + 4 ≤ nr; omega) (Nat.le_of_ble_eq_true rfl) (Nat.le_of_ble_eq_true rfl) rfl dX2_saveTo_49 ?_
      refine s_aload_n X (pc := 52) (x := (ad 0)) 0 dX2_saveTo_52 rfl ?_
      refine s_get X (pc := 53) (v := .ref (ad 4)) iX2_saveTo_X2 0 rfl rfl 3 (by decide) kX2_saveTo_21 rfl rfl dX2_saveTo_53 ?_
      refine s_iconst X (pc := 56) (v := 0) dX2_saveTo_56 (by decide) ?_
      refine s_aload_n X (pc := 57) (x := ar) 1 dX2_saveTo_57 rfl ?_
      refine s_iload_n X (pc := 58) (x := p0) 2 dX2_saveTo_58 rfl ?_
      refine s_bipush X (pc := 59) (v := 12) dX2_saveTo_59 (by decide) ?_
      refine s_iadd X (pc := 61) dX2_saveTo_61 ?_
      refine s_iconst X (pc := 62) (v := 5) dX2_saveTo_62 (by decide) ?_
      refine s_copy X (pc := 63) (n0 := 5) (n1 := nr) (f := a3) (g := va_cpy a2 (va_cpy a1 (va_cpy a0 fr (0 : Int32).toNatClampNeg p0.toNatClampNeg (4 : Int32).toNatClampNeg) (0 : Int32).toNatClampNeg (p0 + (4 : Int32)).toNatClampNeg (4 : Int32).toNatClampNeg) (0 : Int32).toNatClampNeg (p0 + (8 : Int32)).toNatClampNeg (4 : Int32).toNatClampNeg) (w2 := wX2 G ad a0 a1 a2 a3 a4 a5 ++ [(ar, .inl (G.2.1, nr, .inl (va_cpy a3 (va_cpy a2 (va_cpy a1 (va_cpy a0 fr (0 : Int32).toNatClampNeg p0.toNatClampNeg (4 : Int32).toNatClampNeg) (0 : Int32).toNatClampNeg (p0 + (4 : Int32)).toNatClampNeg (4 : Int32).toNatClampNeg) (0 : Int32).toNatClampNeg (p0 + (8 : Int32)).toNatClampNeg (4 : Int32).toNatClampNeg) (0 : Int32).toNatClampNeg (p0 + (12 : Int32)).toNatClampNeg (5 : Int32).toNatClampNeg)))]) kX2_saveTo_m74 kX2_saveTo_naac kX2_saveTo_stac kX2_saveTo_inSys 4 6 rfl rfl (by decide) (by rw [hp, show nI a + 12 = nI (a + 12) from nI_add a 12]; exact nI_pos (by omega)) (by decide) (by decide) (by rw [hp, show nI a + 12 = nI (a + 12) from nI_add a 12, nI_clamp (by omega)]; show a + 12 + 5 ≤ nr; omega) (Nat.le_of_ble_eq_true rfl) (Nat.le_of_ble_eq_true rfl) rfl dX2_saveTo_63 ?_
      refine s_aload_n X (pc := 66) (x := (ad 0)) 0 dX2_saveTo_66 rfl ?_
      refine s_get X (pc := 67) (v := .ref (ad 5)) iX2_saveTo_X2 0 rfl rfl 4 (by decide) kX2_saveTo_24 rfl rfl dX2_saveTo_67 ?_
      refine s_iconst X (pc := 70) (v := 0) dX2_saveTo_70 (by decide) ?_
      refine s_aload_n X (pc := 71) (x := ar) 1 dX2_saveTo_71 rfl ?_
      refine s_iload_n X (pc := 72) (x := p0) 2 dX2_saveTo_72 rfl ?_
      refine s_bipush X (pc := 73) (v := 12) dX2_saveTo_73 (by decide) ?_
      refine s_iadd X (pc := 75) dX2_saveTo_75 ?_
      refine s_iconst X (pc := 76) (v := 5) dX2_saveTo_76 (by decide) ?_
      refine s_iadd X (pc := 77) dX2_saveTo_77 ?_
      refine s_iconst X (pc := 78) (v := 5) dX2_saveTo_78 (by decide) ?_
      refine s_copy X (pc := 79) (n0 := 5) (n1 := nr) (f := a4) (g := va_cpy a3 (va_cpy a2 (va_cpy a1 (va_cpy a0 fr (0 : Int32).toNatClampNeg p0.toNatClampNeg (4 : Int32).toNatClampNeg) (0 : Int32).toNatClampNeg (p0 + (4 : Int32)).toNatClampNeg (4 : Int32).toNatClampNeg) (0 : Int32).toNatClampNeg (p0 + (8 : Int32)).toNatClampNeg (4 : Int32).toNatClampNeg) (0 : Int32).toNatClampNeg (p0 + (12 : Int32)).toNatClampNeg (5 : Int32).toNatClampNeg) (w2 := wX2 G ad a0 a1 a2 a3 a4 a5 ++ [(ar, .inl (G.2.1, nr, .inl (va_cpy a4 (va_cpy a3 (va_cpy a2 (va_cpy a1 (va_cpy a0 fr (0 : Int32).toNatClampNeg p0.toNatClampNeg (4 : Int32).toNatClampNeg) (0 : Int32).toNatClampNeg (p0 + (4 : Int32)).toNatClampNeg (4 : Int32).toNatClampNeg) (0 : Int32).toNatClampNeg (p0 + (8 : Int32)).toNatClampNeg (4 : Int32).toNatClampNeg) (0 : Int32).toNatClampNeg (p0 + (12 : Int32)).toNatClampNeg (5 : Int32).toNatClampNeg) (0 : Int32).toNatClampNeg ((p0 + (12 : Int32)) + (5 : Int32)).toNatClampNeg (5 : Int32).toNatClampNeg)))]) kX2_saveTo_m74 kX2_saveTo_naac kX2_saveTo_stac kX2_saveTo_inSys 5 6 rfl rfl (by decide) (by rw [hp, show nI a + 12 + 5 = nI (a + 17) from (by rw [show nI a + 12 = nI (a + 12) from nI_add a 12]; exact nI_add (a + 12) 5)]; exact nI_pos (by omega)) (by decide) (by decide) (by rw [hp, show nI a + 12 + 5 = nI (a + 17) from (by rw [show nI a + 12 = nI (a + 12) from nI_add a 12]; exact nI_add (a + 12) 5), nI_clamp (by omega)]; show a + 17 + 5 ≤ nr; omega) (Nat.le_of_ble_eq_true rfl) (Nat.le_of_ble_eq_true rfl) rfl dX2_saveTo_79 ?_
      refine s_aload_n X (pc := 82) (x := ar) 1 dX2_saveTo_82 rfl ?_
      refine s_iload_n X (pc := 83) (x := p0) 2 dX2_saveTo_83 rfl ?_
      refine s_bipush X (pc := 84) (v := 23) dX2_saveTo_84 (by decide) ?_
      refine s_iadd X (pc := 86) dX2_saveTo_86 ?_
      refine s_iconst X (pc := 87) (v := 1) dX2_saveTo_87 (by decide) ?_
      refine s_isub X (pc := 88) dX2_saveTo_88 ?_
      refine s_aload_n X (pc := 89) (x := (ad 0)) 0 dX2_saveTo_89 rfl ?_
      refine s_get X (pc := 90) (v := .int a5) iX2_saveTo_X2 0 rfl rfl 5 (by decide) kX2_saveTo_33 rfl rfl dX2_saveTo_90 ?_
      refine s_iast X (pc := 93) (n := nr) (f := va_cpy a4 (va_cpy a3 (va_cpy a2 (va_cpy a1 (va_cpy a0 fr (0 : Int32).toNatClampNeg p0.toNatClampNeg (4 : Int32).toNatClampNeg) (0 : Int32).toNatClampNeg (p0 + (4 : Int32)).toNatClampNeg (4 : Int32).toNatClampNeg) (0 : Int32).toNatClampNeg (p0 + (8 : Int32)).toNatClampNeg (4 : Int32).toNatClampNeg) (0 : Int32).toNatClampNeg (p0 + (12 : Int32)).toNatClampNeg (5 : Int32).toNatClampNeg) (0 : Int32).toNatClampNeg ((p0 + (12 : Int32)) + (5 : Int32)).toNatClampNeg (5 : Int32).toNatClampNeg) (w2 := wX2 G ad a0 a1 a2 a3 a4 a5 ++ [(ar, .inl (G.2.1, nr, .inl (upd (va_cpy a4 (va_cpy a3 (va_cpy a2 (va_cpy a1 (va_cpy a0 fr (0 : Int32).toNatClampNeg p0.toNatClampNeg (4 : Int32).toNatClampNeg) (0 : Int32).toNatClampNeg (p0 + (4 : Int32)).toNatClampNeg (4 : Int32).toNatClampNeg) (0 : Int32).toNatClampNeg (p0 + (8 : Int32)).toNatClampNeg (4 : Int32).toNatClampNeg) (0 : Int32).toNatClampNeg (p0 + (12 : Int32)).toNatClampNeg (5 : Int32).toNatClampNeg) (0 : Int32).toNatClampNeg ((p0 + (12 : Int32)) + (5 : Int32)).toNatClampNeg (5 : Int32).toNatClampNeg) ((p0 + (23 : Int32)) - (1 : Int32)).toNatClampNeg a5)))]) 6 rfl (by rw [hp, show nI a + 23 - 1 = nI (a + 22) from (by rw [show nI a + 23 = nI (a + 22 + 1) from nI_add a 23]; exact nI_pred (a + 22))]; exact vp_in_nI (by omega) (by omega)) rfl dX2_saveTo_93 ?_
      exact s_vret X (pc := 94) dX2_saveTo_94 (by rw [show sX2_saveTo_free_rows a0 a1 a2 a3 a4 a5 fr p0 = upd (va_cpy a4 (va_cpy a3 (va_cpy a2 (va_cpy a1 (va_cpy a0 fr (0 : Int32).toNatClampNeg p0.toNatClampNeg (4 : Int32).toNatClampNeg) (0 : Int32).toNatClampNeg (p0 + (4 : Int32)).toNatClampNeg (4 : Int32).toNatClampNeg) (0 : Int32).toNatClampNeg (p0 + (8 : Int32)).toNatClampNeg (4 : Int32).toNatClampNeg) (0 : Int32).toNatClampNeg (p0 + (12 : Int32)).toNatClampNeg (5 : Int32).toNatClampNeg) (0 : Int32).toNatClampNeg ((p0 + (12 : Int32)) + (5 : Int32)).toNatClampNeg (5 : Int32).toNatClampNeg) ((p0 + (23 : Int32)) - (1 : Int32)).toNatClampNeg a5 from rfl])
    ·
      exact absurd c10 (not_not_intro (by rw [hp, show nI nr - 23 = nI (nr - 23) from pk_sub (b := 23) (by omega)]; exact nI_le (by omega) (by omega)))

theorem iX2_loadFrom_X2 : ∀ z ∈ wsX20, z ∈ wsX2_loadFrom := fun z h => List.mem_cons_of_mem _ (List.mem_append_right _ h)
theorem kX2_loadFrom_9 : Cond.fieldLink RX2 9 "BathingCourt$Day" (TX2 0).2.1 (TX2 0).2.2.1 ∈ wsX2_loadFrom := List.mem_of_getElem? (i := 1) rfl
theorem kX2_loadFrom_m74 : Cond.methodLink RX2 74 arraycopyName ∈ wsX2_loadFrom := List.mem_of_getElem? (i := 2) rfl
theorem kX2_loadFrom_naac : Cond.native arraycopyName ∈ wsX2_loadFrom := List.mem_of_getElem? (i := 3) rfl
theorem kX2_loadFrom_stac : Cond.static arraycopyName ∈ wsX2_loadFrom := List.mem_of_getElem? (i := 4) rfl
theorem kX2_loadFrom_inSys : Cond.initialized "java/lang/System" ∈ wsX2_loadFrom := List.mem_of_getElem? (i := 5) rfl
theorem kX2_loadFrom_15 : Cond.fieldLink RX2 15 "BathingCourt$Day" (TX2 1).2.1 (TX2 1).2.2.1 ∈ wsX2_loadFrom := List.mem_of_getElem? (i := 6) rfl
theorem kX2_loadFrom_18 : Cond.fieldLink RX2 18 "BathingCourt$Day" (TX2 2).2.1 (TX2 2).2.2.1 ∈ wsX2_loadFrom := List.mem_of_getElem? (i := 7) rfl
theorem kX2_loadFrom_21 : Cond.fieldLink RX2 21 "BathingCourt$Day" (TX2 3).2.1 (TX2 3).2.2.1 ∈ wsX2_loadFrom := List.mem_of_getElem? (i := 8) rfl
theorem kX2_loadFrom_24 : Cond.fieldLink RX2 24 "BathingCourt$Day" (TX2 4).2.1 (TX2 4).2.2.1 ∈ wsX2_loadFrom := List.mem_of_getElem? (i := 9) rfl
theorem kX2_loadFrom_33 : Cond.fieldLink RX2 33 "BathingCourt$Day" (TX2 5).2.1 (TX2 5).2.2.1 ∈ wsX2_loadFrom := List.mem_of_getElem? (i := 10) rfl
def sX2_loadFrom_0 (a0 fr : Nat → Int32) (p0 : Int32) : Nat → Int32 := va_cpy fr a0 p0.toNatClampNeg (0 : Int32).toNatClampNeg (4 : Int32).toNatClampNeg
def sX2_loadFrom_1 (a1 fr : Nat → Int32) (p0 : Int32) : Nat → Int32 := va_cpy fr a1 (p0 + (4 : Int32)).toNatClampNeg (0 : Int32).toNatClampNeg (4 : Int32).toNatClampNeg
def sX2_loadFrom_2 (a2 fr : Nat → Int32) (p0 : Int32) : Nat → Int32 := va_cpy fr a2 (p0 + (8 : Int32)).toNatClampNeg (0 : Int32).toNatClampNeg (4 : Int32).toNatClampNeg
def sX2_loadFrom_3 (a3 fr : Nat → Int32) (p0 : Int32) : Nat → Int32 := va_cpy fr a3 (p0 + (12 : Int32)).toNatClampNeg (0 : Int32).toNatClampNeg (5 : Int32).toNatClampNeg
def sX2_loadFrom_4 (a4 fr : Nat → Int32) (p0 : Int32) : Nat → Int32 := va_cpy fr a4 ((p0 + (12 : Int32)) + (5 : Int32)).toNatClampNeg (0 : Int32).toNatClampNeg (5 : Int32).toNatClampNeg
def sX2_loadFrom_5 (fr : Nat → Int32) (p0 : Int32) : Int32 := fr ((p0 + (23 : Int32)) - (1 : Int32)).toNatClampNeg
set_option maxRecDepth 100000 in
set_option maxHeartbeats 4000000 in
theorem c_X2_loadFrom (l : Launch) (G : GT) (ad : Nat → Nat) (ar : Nat) (a0 a1 a2 a3 a4 : Nat → Int32) (a5 : Int32) (nr : Nat) (fr : Nat → Int32) (p0 : Int32) (a : Nat) (hp : p0 = nI a) (ha : a + 23 ≤ nr) (hnr : nr ≤ 460) : Cv l G yX2_loadFrom wsX2_loadFrom (rmL 0) [.ref (ad 0), .ref ar, .int p0] (wX2 G ad a0 a1 a2 a3 a4 a5 ++ [(ar, .inl (G.2.1, nr, .inl fr))]) (wX2 G ad (sX2_loadFrom_0 a0 fr p0) (sX2_loadFrom_1 a1 fr p0) (sX2_loadFrom_2 a2 fr p0) (sX2_loadFrom_3 a3 fr p0) (sX2_loadFrom_4 a4 fr p0) (sX2_loadFrom_5 fr p0) ++ [(ar, .inl (G.2.1, nr, .inl fr))]) := by
  refine cv_start (by decide) rfl rfl (Nat.le_of_ble_eq_true rfl) ?_
  intro p e s m args below meth c A X
  refine s_perm (lv2 := [(0, .ref (ad 0)), (1, .ref ar), (2, .int p0)]) [0, 1, 2] rfl ?_
  refine s_iload_n X (pc := 0) (x := p0) 2 dX2_loadFrom_0 rfl ?_
  refine s_if_lt X (pc := 1) (tgt := 13) dX2_loadFrom_1 (by decide) (fun c1 => ?_) (fun c1 => ?_)
  ·
    exact absurd c1 (by rw [hp]; exact nI_pos (by omega))
  ·
    refine s_iload_n X (pc := 4) (x := p0) 2 dX2_loadFrom_4 rfl ?_
    refine s_aload_n X (pc := 5) (x := ar) 1 dX2_loadFrom_5 rfl ?_
    refine s_alen X (pc := 6) (n := nr) (f := fr) 6 rfl dX2_loadFrom_6 ?_
    refine s_bipush X (pc := 7) (v := 23) dX2_loadFrom_7 (by decide) ?_
    refine s_isub X (pc := 9) dX2_loadFrom_9 ?_
    refine s_icmp_le X (pc := 10) (tgt := 14) dX2_loadFrom_10 (by decide) (fun c10 => ?_) (fun c10 => ?_)
    ·
      refine s_aload_n X (pc := 14) (x := ar) 1 dX2_loadFrom_14 rfl ?_
      refine s_iload_n X (pc := 15) (x := p0) 2 dX2_loadFrom_15 rfl ?_
      refine s_aload_n X (pc := 16) (x := (ad 0)) 0 dX2_loadFrom_16 rfl ?_
      refine s_get X (pc := 17) (v := .ref (ad 1)) iX2_loadFrom_X2 0 rfl rfl 0 (by decide) kX2_loadFrom_9 rfl rfl dX2_loadFrom_17 ?_
      refine s_iconst X (pc := 20) (v := 0) dX2_loadFrom_20 (by decide) ?_
      refine s_iconst X (pc := 21) (v := 4) dX2_loadFrom_21 (by decide) ?_
      refine s_copy X (pc := 22) (n0 := nr) (n1 := 4) (f := fr) (g := a0) (w2 := wX2 G ad (va_cpy fr a0 p0.toNatClampNeg (0 : Int32).toNatClampNeg (4 : Int32).toNatClampNeg) a1 a2 a3 a4 a5 ++ [(ar, .inl (G.2.1, nr, .inl fr))]) kX2_loadFrom_m74 kX2_loadFrom_naac kX2_loadFrom_stac kX2_loadFrom_inSys 6 1 rfl rfl (by rw [hp]; exact nI_pos (by omega)) (by decide) (by decide) (by rw [hp, nI_clamp (by omega)]; show a + 4 ≤ nr; omega) (by decide) (Nat.le_of_ble_eq_true rfl) (Nat.le_of_ble_eq_true rfl) rfl dX2_loadFrom_22 ?_
      refine s_aload_n X (pc := 25) (x := ar) 1 dX2_loadFrom_25 rfl ?_
      refine s_iload_n X (pc := 26) (x := p0) 2 dX2_loadFrom_26 rfl ?_
      refine s_iconst X (pc := 27) (v := 4) dX2_loadFrom_27 (by decide) ?_
      refine s_iadd X (pc := 28) dX2_loadFrom_28 ?_
      refine s_aload_n X (pc := 29) (x := (ad 0)) 0 dX2_loadFrom_29 rfl ?_
      refine s_get X (pc := 30) (v := .ref (ad 2)) iX2_loadFrom_X2 0 rfl rfl 1 (by decide) kX2_loadFrom_15 rfl rfl dX2_loadFrom_30 ?_
      refine s_iconst X (pc := 33) (v := 0) dX2_loadFrom_33 (by decide) ?_
      refine s_iconst X (pc := 34) (v := 4) dX2_loadFrom_34 (by decide) ?_
      refine s_copy X (pc := 35) (n0 := nr) (n1 := 4) (f := fr) (g := a1) (w2 := wX2 G ad (va_cpy fr a0 p0.toNatClampNeg (0 : Int32).toNatClampNeg (4 : Int32).toNatClampNeg) (va_cpy fr a1 (p0 + (4 : Int32)).toNatClampNeg (0 : Int32).toNatClampNeg (4 : Int32).toNatClampNeg) a2 a3 a4 a5 ++ [(ar, .inl (G.2.1, nr, .inl fr))]) kX2_loadFrom_m74 kX2_loadFrom_naac kX2_loadFrom_stac kX2_loadFrom_inSys 6 2 rfl rfl (by rw [hp, show nI a + 4 = nI (a + 4) from nI_add a 4]; exact nI_pos (by omega)) (by decide) (by decide) (by rw [hp, show nI a + 4 = nI (a + 4) from nI_add a 4, nI_clamp (by omega)]; show a + 4 + 4 ≤ nr; omega) (by decide) (Nat.le_of_ble_eq_true rfl) (Nat.le_of_ble_eq_true rfl) rfl dX2_loadFrom_35 ?_
      refine s_aload_n X (pc := 38) (x := ar) 1 dX2_loadFrom_38 rfl ?_
      refine s_iload_n X (pc := 39) (x := p0) 2 dX2_loadFrom_39 rfl ?_
      refine s_bipush X (pc := 40) (v := 8) dX2_loadFrom_40 (by decide) ?_
      refine s_iadd X (pc := 42) dX2_loadFrom_42 ?_
      refine s_aload_n X (pc := 43) (x := (ad 0)) 0 dX2_loadFrom_43 rfl ?_
      refine s_get X (pc := 44) (v := .ref (ad 3)) iX2_loadFrom_X2 0 rfl rfl 2 (by decide) kX2_loadFrom_18 rfl rfl dX2_loadFrom_44 ?_
      refine s_iconst X (pc := 47) (v := 0) dX2_loadFrom_47 (by decide) ?_
      refine s_iconst X (pc := 48) (v := 4) dX2_loadFrom_48 (by decide) ?_
      refine s_copy X (pc := 49) (n0 := nr) (n1 := 4) (f := fr) (g := a2) (w2 := wX2 G ad (va_cpy fr a0 p0.toNatClampNeg (0 : Int32).toNatClampNeg (4 : Int32).toNatClampNeg) (va_cpy fr a1 (p0 + (4 : Int32)).toNatClampNeg (0 : Int32).toNatClampNeg (4 : Int32).toNatClampNeg) (va_cpy fr a2 (p0 + (8 : Int32)).toNatClampNeg (0 : Int32).toNatClampNeg (4 : Int32).toNatClampNeg) a3 a4 a5 ++ [(ar, .inl (G.2.1, nr, .inl fr))]) kX2_loadFrom_m74 kX2_loadFrom_naac kX2_loadFrom_stac kX2_loadFrom_inSys 6 3 rfl rfl (by rw [hp, show nI a + 8 = nI (a + 8) from nI_add a 8]; exact nI_pos (by omega)) (by decide) (by decide) (by rw [hp, show nI a + 8 = nI (a + 8) from nI_add a 8, nI_clamp (by omega)]; show a + 8 + 4 ≤ nr; omega) (by decide) (Nat.le_of_ble_eq_true rfl) (Nat.le_of_ble_eq_true rfl) rfl dX2_loadFrom_49 ?_
      refine s_aload_n X (pc := 52) (x := ar) 1 dX2_loadFrom_52 rfl ?_
      refine s_iload_n X (pc := 53) (x := p0) 2 dX2_loadFrom_53 rfl ?_
      refine s_bipush X (pc := 54) (v := 12) dX2_loadFrom_54 (by decide) ?_
      refine s_iadd X (pc := 56) dX2_loadFrom_56 ?_
      refine s_aload_n X (pc := 57) (x := (ad 0)) 0 dX2_loadFrom_57 rfl ?_
      refine s_get X (pc := 58) (v := .ref (ad 4)) iX2_loadFrom_X2 0 rfl rfl 3 (by decide) kX2_loadFrom_21 rfl rfl dX2_loadFrom_58 ?_
      refine s_iconst X (pc := 61) (v := 0) dX2_loadFrom_61 (by decide) ?_
      refine s_iconst X (pc := 62) (v := 5) dX2_loadFrom_62 (by decide) ?_
      refine s_copy X (pc := 63) (n0 := nr) (n1 := 5) (f := fr) (g := a3) (w2 := wX2 G ad (va_cpy fr a0 p0.toNatClampNeg (0 : Int32).toNatClampNeg (4 : Int32).toNatClampNeg) (va_cpy fr a1 (p0 + (4 : Int32)).toNatClampNeg (0 : Int32).toNatClampNeg (4 : Int32).toNatClampNeg) (va_cpy fr a2 (p0 + (8 : Int32)).toNatClampNeg (0 : Int32).toNatClampNeg (4 : Int32).toNatClampNeg) (va_cpy fr a3 (p0 + (12 : Int32)).toNatClampNeg (0 : Int32).toNatClampNeg (5 : Int32).toNatClampNeg) a4 a5 ++ [(ar, .inl (G.2.1, nr, .inl fr))]) kX2_loadFrom_m74 kX2_loadFrom_naac kX2_loadFrom_stac kX2_loadFrom_inSys 6 4 rfl rfl (by rw [hp, show nI a + 12 = nI (a + 12) from nI_add a 12]; exact nI_pos (by omega)) (by decide) (by decide) (by rw [hp, show nI a + 12 = nI (a + 12) from nI_add a 12, nI_clamp (by omega)]; show a + 12 + 5 ≤ nr; omega) (by decide) (Nat.le_of_ble_eq_true rfl) (Nat.le_of_ble_eq_true rfl) rfl dX2_loadFrom_63 ?_
      refine s_aload_n X (pc := 66) (x := ar) 1 dX2_loadFrom_66 rfl ?_
      refine s_iload_n X (pc := 67) (x := p0) 2 dX2_loadFrom_67 rfl ?_
      refine s_bipush X (pc := 68) (v := 12) dX2_loadFrom_68 (by decide) ?_
      refine s_iadd X (pc := 70) dX2_loadFrom_70 ?_
      refine s_iconst X (pc := 71) (v := 5) dX2_loadFrom_71 (by decide) ?_
      refine s_iadd X (pc := 72) dX2_loadFrom_72 ?_
      refine s_aload_n X (pc := 73) (x := (ad 0)) 0 dX2_loadFrom_73 rfl ?_
      refine s_get X (pc := 74) (v := .ref (ad 5)) iX2_loadFrom_X2 0 rfl rfl 4 (by decide) kX2_loadFrom_24 rfl rfl dX2_loadFrom_74 ?_
      refine s_iconst X (pc := 77) (v := 0) dX2_loadFrom_77 (by decide) ?_
      refine s_iconst X (pc := 78) (v := 5) dX2_loadFrom_78 (by decide) ?_
      refine s_copy X (pc := 79) (n0 := nr) (n1 := 5) (f := fr) (g := a4) (w2 := wX2 G ad (va_cpy fr a0 p0.toNatClampNeg (0 : Int32).toNatClampNeg (4 : Int32).toNatClampNeg) (va_cpy fr a1 (p0 + (4 : Int32)).toNatClampNeg (0 : Int32).toNatClampNeg (4 : Int32).toNatClampNeg) (va_cpy fr a2 (p0 + (8 : Int32)).toNatClampNeg (0 : Int32).toNatClampNeg (4 : Int32).toNatClampNeg) (va_cpy fr a3 (p0 + (12 : Int32)).toNatClampNeg (0 : Int32).toNatClampNeg (5 : Int32).toNatClampNeg) (va_cpy fr a4 ((p0 + (12 : Int32)) + (5 : Int32)).toNatClampNeg (0 : Int32).toNatClampNeg (5 : Int32).toNatClampNeg) a5 ++ [(ar, .inl (G.2.1, nr, .inl fr))]) kX2_loadFrom_m74 kX2_loadFrom_naac kX2_loadFrom_stac kX2_loadFrom_inSys 6 5 rfl rfl (by rw [hp, show nI a + 12 + 5 = nI (a + 17) from (by rw [show nI a + 12 = nI (a + 12) from nI_add a 12]; exact nI_add (a + 12) 5)]; exact nI_pos (by omega)) (by decide) (by decide) (by rw [hp, show nI a + 12 + 5 = nI (a + 17) from (by rw [show nI a + 12 = nI (a + 12) from nI_add a 12]; exact nI_add (a + 12) 5), nI_clamp (by omega)]; show a + 17 + 5 ≤ nr; omega) (by decide) (Nat.le_of_ble_eq_true rfl) (Nat.le_of_ble_eq_true rfl) rfl dX2_loadFrom_79 ?_
      refine s_aload_n X (pc := 82) (x := (ad 0)) 0 dX2_loadFrom_82 rfl ?_
      refine s_aload_n X (pc := 83) (x := ar) 1 dX2_loadFrom_83 rfl ?_
      refine s_iload_n X (pc := 84) (x := p0) 2 dX2_loadFrom_84 rfl ?_
      refine s_bipush X (pc := 85) (v := 23) dX2_loadFrom_85 (by decide) ?_
      refine s_iadd X (pc := 87) dX2_loadFrom_87 ?_
      refine s_iconst X (pc := 88) (v := 1) dX2_loadFrom_88 (by decide) ?_
      refine s_isub X (pc := 89) dX2_loadFrom_89 ?_
      refine s_iald X (pc := 90) (n := nr) (f := fr) 6 rfl (by rw [hp, show nI a + 23 - 1 = nI (a + 22) from (by rw [show nI a + 23 = nI (a + 22 + 1) from nI_add a 23]; exact nI_pred (a + 22))]; exact vp_in_nI (by omega) (by omega)) dX2_loadFrom_90 ?_
      refine s_put X (pc := 91) (v := .int (fr ((p0 + (23 : Int32)) - (1 : Int32)).toNatClampNeg)) (w2 := wX2 G ad (va_cpy fr a0 p0.toNatClampNeg (0 : Int32).toNatClampNeg (4 : Int32).toNatClampNeg) (va_cpy fr a1 (p0 + (4 : Int32)).toNatClampNeg (0 : Int32).toNatClampNeg (4 : Int32).toNatClampNeg) (va_cpy fr a2 (p0 + (8 : Int32)).toNatClampNeg (0 : Int32).toNatClampNeg (4 : Int32).toNatClampNeg) (va_cpy fr a3 (p0 + (12 : Int32)).toNatClampNeg (0 : Int32).toNatClampNeg (5 : Int32).toNatClampNeg) (va_cpy fr a4 ((p0 + (12 : Int32)) + (5 : Int32)).toNatClampNeg (0 : Int32).toNatClampNeg (5 : Int32).toNatClampNeg) (fr ((p0 + (23 : Int32)) - (1 : Int32)).toNatClampNeg) ++ [(ar, .inl (G.2.1, nr, .inl fr))]) iX2_loadFrom_X2 0 rfl rfl 5 (by decide) kX2_loadFrom_33 rfl tyX2 tyX2_ok nmX2 rfl (ty := .int) (by decide +kernel) rfl rfl (Nat.le_of_ble_eq_true rfl) rfl dX2_loadFrom_91 ?_
      exact s_vret X (pc := 94) dX2_loadFrom_94 (by rw [show sX2_loadFrom_0 a0 fr p0 = va_cpy fr a0 p0.toNatClampNeg (0 : Int32).toNatClampNeg (4 : Int32).toNatClampNeg from rfl, show sX2_loadFrom_1 a1 fr p0 = va_cpy fr a1 (p0 + (4 : Int32)).toNatClampNeg (0 : Int32).toNatClampNeg (4 : Int32).toNatClampNeg from rfl, show sX2_loadFrom_2 a2 fr p0 = va_cpy fr a2 (p0 + (8 : Int32)).toNatClampNeg (0 : Int32).toNatClampNeg (4 : Int32).toNatClampNeg from rfl, show sX2_loadFrom_3 a3 fr p0 = va_cpy fr a3 (p0 + (12 : Int32)).toNatClampNeg (0 : Int32).toNatClampNeg (5 : Int32).toNatClampNeg from rfl, show sX2_loadFrom_4 a4 fr p0 = va_cpy fr a4 ((p0 + (12 : Int32)) + (5 : Int32)).toNatClampNeg (0 : Int32).toNatClampNeg (5 : Int32).toNatClampNeg from rfl, show sX2_loadFrom_5 fr p0 = fr ((p0 + (23 : Int32)) - (1 : Int32)).toNatClampNeg from rfl])
    ·
      exact absurd c10 (not_not_intro (by rw [hp, show nI nr - 23 = nI (nr - 23) from pk_sub (b := 23) (by omega)]; exact nI_le (by omega) (by omega)))
