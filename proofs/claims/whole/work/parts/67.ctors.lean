theorem kX0_init_oi : Cond.methodLink RX0 3 objectInit ∈ wsX0_init := List.mem_of_getElem? (i := 1) rfl
theorem kX0_init_oj : Cond.instanceMethod objectInit ∈ wsX0_init := List.mem_of_getElem? (i := 2) rfl
theorem kX0_init_ok : Cond.code objectInit ⟨#[0xb1]⟩ 1 none ∈ wsX0_init := List.mem_of_getElem? (i := 3) rfl
theorem kX0_init_ai : Cond.arrayClass .int ∈ wsX0_init := List.mem_of_getElem? (i := 4) rfl
theorem kX0_init_9 : Cond.fieldLink RX0 9 "BathingCourt$Beach" (TX0 0).2.1 (TX0 0).2.2.1 ∈ wsX0_init := List.mem_of_getElem? (i := 5) rfl
theorem iX0_init_X0 : ∀ z ∈ wsX00, z ∈ wsX0_init := fun z h => List.mem_cons_of_mem _ (List.mem_append_right _ h)
theorem kX0_init_15 : Cond.fieldLink RX0 15 "BathingCourt$Beach" (TX0 1).2.1 (TX0 1).2.2.1 ∈ wsX0_init := List.mem_of_getElem? (i := 6) rfl
theorem kX0_init_18 : Cond.fieldLink RX0 18 "BathingCourt$Beach" (TX0 2).2.1 (TX0 2).2.2.1 ∈ wsX0_init := List.mem_of_getElem? (i := 7) rfl
theorem kX0_init_21 : Cond.fieldLink RX0 21 "BathingCourt$Beach" (TX0 3).2.1 (TX0 3).2.2.1 ∈ wsX0_init := List.mem_of_getElem? (i := 8) rfl
theorem kX0_init_24 : Cond.fieldLink RX0 24 "BathingCourt$Beach" (TX0 4).2.1 (TX0 4).2.2.1 ∈ wsX0_init := List.mem_of_getElem? (i := 9) rfl
theorem kX0_init_27 : Cond.fieldLink RX0 27 "BathingCourt$Beach" (TX0 5).2.1 (TX0 5).2.2.1 ∈ wsX0_init := List.mem_of_getElem? (i := 10) rfl
set_option maxRecDepth 100000 in
set_option maxHeartbeats 4000000 in
theorem c_X0_init (l : Launch) (G : GT) (a : Nat) : Cn l G yX0_init wsX0_init 0 6 36 [] [.ref a] [(a, .inr (0, [.null, .null, .null, .null, .null, .null, .int (0 : Int32), .int (0 : Int32), .int (0 : Int32)]))] (fun ad : Nat → Nat => wX0 G (cA a ad) (fun _ => 0) (fun _ => 0) (fun _ => 0) (fun _ => 0) (fun _ => 0) (fun _ => 0) (0 : Int32) (0 : Int32) (0 : Int32)) := by
  refine cn_start (by decide) rfl rfl rfl (Nat.le_of_ble_eq_true rfl) ?_
  intro p e s m args below meth c A X hmn hnw
  refine s_perm (lv2 := [(0, .ref a)]) [0] rfl ?_
  refine s_aload_n X (pc := 0) (x := a) 0 dX0_init_0 rfl ?_
  refine s_oinit X (pc := 1) (st := []) (a := a) kX0_init_oi kX0_init_oj kX0_init_ok dX0_init_1 (Nat.le_of_ble_eq_true rfl) (Nat.le_of_ble_eq_true rfl) ?_
  refine s_aload_n X (pc := 4) (x := a) 0 dX0_init_4 rfl ?_
  refine s_bipush X (pc := 5) (v := 12) dX0_init_5 (by decide) ?_
  refine s_newi2 X (pc := 7) (cells := 0) (slots := 0) (N := 12) (fun q7 => [(a, .inr (0, [.null, .null, .null, .null, .null, .null, .int (0 : Int32), .int (0 : Int32), .int (0 : Int32)])), (q7, .inl (G.2.1, 12, .inl (fun _ => 0)))]) (fun _ => rfl) kX0_init_ai (by decide) rfl (Nat.le_of_ble_eq_true rfl) (Nat.le_of_ble_eq_true rfl) (Nat.le_of_ble_eq_true rfl) dX0_init_7 (fun q7 => ?_)
  refine s_putF X (pc := 9) (v := .ref q7) (w2 := [(a, .inr (0, [.ref q7, .null, .null, .null, .null, .null, .int (0 : Int32), .int (0 : Int32), .int (0 : Int32)])), (q7, .inl (G.2.1, 12, .inl (fun _ => 0)))]) iX0_init_X0 0 rfl rfl 0 (by decide) kX0_init_9 rfl hmn tyX0 tyX0_ok nmX0 rfl rfl (ty := tyX0 0) (by decide +kernel) rfl rfl (Nat.le_of_ble_eq_true rfl) rfl dX0_init_9 ?_
  refine s_aload_n X (pc := 12) (x := a) 0 dX0_init_12 rfl ?_
  refine s_iconst X (pc := 13) (v := 4) dX0_init_13 (by decide) ?_
  refine s_newi2 X (pc := 14) (cells := 1) (slots := 12) (N := 4) (fun q14 => [(a, .inr (0, [.ref q7, .null, .null, .null, .null, .null, .int (0 : Int32), .int (0 : Int32), .int (0 : Int32)])), (q7, .inl (G.2.1, 12, .inl (fun _ => 0))), (q14, .inl (G.2.1, 4, .inl (fun _ => 0)))]) (fun _ => rfl) kX0_init_ai (by decide) rfl (Nat.le_of_ble_eq_true rfl) (Nat.le_of_ble_eq_true rfl) (Nat.le_of_ble_eq_true rfl) dX0_init_14 (fun q14 => ?_)
  refine s_putF X (pc := 16) (v := .ref q14) (w2 := [(a, .inr (0, [.ref q7, .ref q14, .null, .null, .null, .null, .int (0 : Int32), .int (0 : Int32), .int (0 : Int32)])), (q7, .inl (G.2.1, 12, .inl (fun _ => 0))), (q14, .inl (G.2.1, 4, .inl (fun _ => 0)))]) iX0_init_X0 0 rfl rfl 1 (by decide) kX0_init_15 rfl hmn tyX0 tyX0_ok nmX0 rfl rfl (ty := tyX0 1) (by decide +kernel) rfl rfl (Nat.le_of_ble_eq_true rfl) rfl dX0_init_16 ?_
  refine s_aload_n X (pc := 19) (x := a) 0 dX0_init_19 rfl ?_
  refine s_iconst X (pc := 20) (v := 5) dX0_init_20 (by decide) ?_
  refine s_newi2 X (pc := 21) (cells := 2) (slots := 16) (N := 5) (fun q21 => [(a, .inr (0, [.ref q7, .ref q14, .null, .null, .null, .null, .int (0 : Int32), .int (0 : Int32), .int (0 : Int32)])), (q7, .inl (G.2.1, 12, .inl (fun _ => 0))), (q14, .inl (G.2.1, 4, .inl (fun _ => 0))), (q21, .inl (G.2.1, 5, .inl (fun _ => 0)))]) (fun _ => rfl) kX0_init_ai (by decide) rfl (Nat.le_of_ble_eq_true rfl) (Nat.le_of_ble_eq_true rfl) (Nat.le_of_ble_eq_true rfl) dX0_init_21 (fun q21 => ?_)
  refine s_putF X (pc := 23) (v := .ref q21) (w2 := [(a, .inr (0, [.ref q7, .ref q14, .ref q21, .null, .null, .null, .int (0 : Int32), .int (0 : Int32), .int (0 : Int32)])), (q7, .inl (G.2.1, 12, .inl (fun _ => 0))), (q14, .inl (G.2.1, 4, .inl (fun _ => 0))), (q21, .inl (G.2.1, 5, .inl (fun _ => 0)))]) iX0_init_X0 0 rfl rfl 2 (by decide) kX0_init_18 rfl hmn tyX0 tyX0_ok nmX0 rfl rfl (ty := tyX0 2) (by decide +kernel) rfl rfl (Nat.le_of_ble_eq_true rfl) rfl dX0_init_23 ?_
  refine s_aload_n X (pc := 26) (x := a) 0 dX0_init_26 rfl ?_
  refine s_iconst X (pc := 27) (v := 5) dX0_init_27 (by decide) ?_
  refine s_newi2 X (pc := 28) (cells := 3) (slots := 21) (N := 5) (fun q28 => [(a, .inr (0, [.ref q7, .ref q14, .ref q21, .null, .null, .null, .int (0 : Int32), .int (0 : Int32), .int (0 : Int32)])), (q7, .inl (G.2.1, 12, .inl (fun _ => 0))), (q14, .inl (G.2.1, 4, .inl (fun _ => 0))), (q21, .inl (G.2.1, 5, .inl (fun _ => 0))), (q28, .inl (G.2.1, 5, .inl (fun _ => 0)))]) (fun _ => rfl) kX0_init_ai (by decide) rfl (Nat.le_of_ble_eq_true rfl) (Nat.le_of_ble_eq_true rfl) (Nat.le_of_ble_eq_true rfl) dX0_init_28 (fun q28 => ?_)
  refine s_putF X (pc := 30) (v := .ref q28) (w2 := [(a, .inr (0, [.ref q7, .ref q14, .ref q21, .ref q28, .null, .null, .int (0 : Int32), .int (0 : Int32), .int (0 : Int32)])), (q7, .inl (G.2.1, 12, .inl (fun _ => 0))), (q14, .inl (G.2.1, 4, .inl (fun _ => 0))), (q21, .inl (G.2.1, 5, .inl (fun _ => 0))), (q28, .inl (G.2.1, 5, .inl (fun _ => 0)))]) iX0_init_X0 0 rfl rfl 3 (by decide) kX0_init_21 rfl hmn tyX0 tyX0_ok nmX0 rfl rfl (ty := tyX0 3) (by decide +kernel) rfl rfl (Nat.le_of_ble_eq_true rfl) rfl dX0_init_30 ?_
  refine s_aload_n X (pc := 33) (x := a) 0 dX0_init_33 rfl ?_
  refine s_iconst X (pc := 34) (v := 5) dX0_init_34 (by decide) ?_
  refine s_newi2 X (pc := 35) (cells := 4) (slots := 26) (N := 5) (fun q35 => [(a, .inr (0, [.ref q7, .ref q14, .ref q21, .ref q28, .null, .null, .int (0 : Int32), .int (0 : Int32), .int (0 : Int32)])), (q7, .inl (G.2.1, 12, .inl (fun _ => 0))), (q14, .inl (G.2.1, 4, .inl (fun _ => 0))), (q21, .inl (G.2.1, 5, .inl (fun _ => 0))), (q28, .inl (G.2.1, 5, .inl (fun _ => 0))), (q35, .inl (G.2.1, 5, .inl (fun _ => 0)))]) (fun _ => rfl) kX0_init_ai (by decide) rfl (Nat.le_of_ble_eq_true rfl) (Nat.le_of_ble_eq_true rfl) (Nat.le_of_ble_eq_true rfl) dX0_init_35 (fun q35 => ?_)
  refine s_putF X (pc := 37) (v := .ref q35) (w2 := [(a, .inr (0, [.ref q7, .ref q14, .ref q21, .ref q28, .ref q35, .null, .int (0 : Int32), .int (0 : Int32), .int (0 : Int32)])), (q7, .inl (G.2.1, 12, .inl (fun _ => 0))), (q14, .inl (G.2.1, 4, .inl (fun _ => 0))), (q21, .inl (G.2.1, 5, .inl (fun _ => 0))), (q28, .inl (G.2.1, 5, .inl (fun _ => 0))), (q35, .inl (G.2.1, 5, .inl (fun _ => 0)))]) iX0_init_X0 0 rfl rfl 4 (by decide) kX0_init_24 rfl hmn tyX0 tyX0_ok nmX0 rfl rfl (ty := tyX0 4) (by decide +kernel) rfl rfl (Nat.le_of_ble_eq_true rfl) rfl dX0_init_37 ?_
  refine s_aload_n X (pc := 40) (x := a) 0 dX0_init_40 rfl ?_
  refine s_iconst X (pc := 41) (v := 5) dX0_init_41 (by decide) ?_
  refine s_newi2 X (pc := 42) (cells := 5) (slots := 31) (N := 5) (fun q42 => [(a, .inr (0, [.ref q7, .ref q14, .ref q21, .ref q28, .ref q35, .null, .int (0 : Int32), .int (0 : Int32), .int (0 : Int32)])), (q7, .inl (G.2.1, 12, .inl (fun _ => 0))), (q14, .inl (G.2.1, 4, .inl (fun _ => 0))), (q21, .inl (G.2.1, 5, .inl (fun _ => 0))), (q28, .inl (G.2.1, 5, .inl (fun _ => 0))), (q35, .inl (G.2.1, 5, .inl (fun _ => 0))), (q42, .inl (G.2.1, 5, .inl (fun _ => 0)))]) (fun _ => rfl) kX0_init_ai (by decide) rfl (Nat.le_of_ble_eq_true rfl) (Nat.le_of_ble_eq_true rfl) (Nat.le_of_ble_eq_true rfl) dX0_init_42 (fun q42 => ?_)
  refine s_putF X (pc := 44) (v := .ref q42) (w2 := [(a, .inr (0, [.ref q7, .ref q14, .ref q21, .ref q28, .ref q35, .ref q42, .int (0 : Int32), .int (0 : Int32), .int (0 : Int32)])), (q7, .inl (G.2.1, 12, .inl (fun _ => 0))), (q14, .inl (G.2.1, 4, .inl (fun _ => 0))), (q21, .inl (G.2.1, 5, .inl (fun _ => 0))), (q28, .inl (G.2.1, 5, .inl (fun _ => 0))), (q35, .inl (G.2.1, 5, .inl (fun _ => 0))), (q42, .inl (G.2.1, 5, .inl (fun _ => 0)))]) iX0_init_X0 0 rfl rfl 5 (by decide) kX0_init_27 rfl hmn tyX0 tyX0_ok nmX0 rfl rfl (ty := tyX0 5) (by decide +kernel) rfl rfl (Nat.le_of_ble_eq_true rfl) rfl dX0_init_44 ?_
  exact s_vretN X (pc := 47) dX0_init_47 (fun k => ([q7, q14, q21, q28, q35, q42, 0, 0, 0] : List Nat).getD k 0) rfl

theorem kX1_init_oi : Cond.methodLink RX1 3 objectInit ∈ wsX1_init := List.mem_of_getElem? (i := 1) rfl
theorem kX1_init_oj : Cond.instanceMethod objectInit ∈ wsX1_init := List.mem_of_getElem? (i := 2) rfl
theorem kX1_init_ok : Cond.code objectInit ⟨#[0xb1]⟩ 1 none ∈ wsX1_init := List.mem_of_getElem? (i := 3) rfl
theorem kX1_init_ai : Cond.arrayClass .int ∈ wsX1_init := List.mem_of_getElem? (i := 4) rfl
theorem kX1_init_9 : Cond.fieldLink RX1 9 "BathingCourt$Book" (TX1 0).2.1 (TX1 0).2.2.1 ∈ wsX1_init := List.mem_of_getElem? (i := 5) rfl
theorem iX1_init_X1 : ∀ z ∈ wsX10, z ∈ wsX1_init := fun z h => List.mem_cons_of_mem _ (List.mem_append_right _ h)
theorem kX1_init_15 : Cond.fieldLink RX1 15 "BathingCourt$Book" (TX1 1).2.1 (TX1 1).2.2.1 ∈ wsX1_init := List.mem_of_getElem? (i := 6) rfl
set_option maxRecDepth 100000 in
set_option maxHeartbeats 4000000 in
theorem c_X1_init (l : Launch) (G : GT) (a : Nat) : Cn l G yX1_init wsX1_init 0 2 30 [] [.ref a] [(a, .inr (1, [.null, .null, .int (0 : Int32)]))] (fun ad : Nat → Nat => wX1 G (cA a ad) (fun _ => 0) (fun _ => 0) (0 : Int32)) := by
  refine cn_start (by decide) rfl rfl rfl (Nat.le_of_ble_eq_true rfl) ?_
  intro p e s m args below meth c A X hmn hnw
  refine s_perm (lv2 := [(0, .ref a)]) [0] rfl ?_
  refine s_aload_n X (pc := 0) (x := a) 0 dX1_init_0 rfl ?_
  refine s_oinit X (pc := 1) (st := []) (a := a) kX1_init_oi kX1_init_oj kX1_init_ok dX1_init_1 (Nat.le_of_ble_eq_true rfl) (Nat.le_of_ble_eq_true rfl) ?_
  refine s_aload_n X (pc := 4) (x := a) 0 dX1_init_4 rfl ?_
  refine s_bipush X (pc := 5) (v := 15) dX1_init_5 (by decide) ?_
  refine s_newi2 X (pc := 7) (cells := 0) (slots := 0) (N := 15) (fun q7 => [(a, .inr (1, [.null, .null, .int (0 : Int32)])), (q7, .inl (G.2.1, 15, .inl (fun _ => 0)))]) (fun _ => rfl) kX1_init_ai (by decide) rfl (Nat.le_of_ble_eq_true rfl) (Nat.le_of_ble_eq_true rfl) (Nat.le_of_ble_eq_true rfl) dX1_init_7 (fun q7 => ?_)
  refine s_putF X (pc := 9) (v := .ref q7) (w2 := [(a, .inr (1, [.ref q7, .null, .int (0 : Int32)])), (q7, .inl (G.2.1, 15, .inl (fun _ => 0)))]) iX1_init_X1 0 rfl rfl 0 (by decide) kX1_init_9 rfl hmn tyX1 tyX1_ok nmX1 rfl rfl (ty := tyX1 0) (by decide +kernel) rfl rfl (Nat.le_of_ble_eq_true rfl) rfl dX1_init_9 ?_
  refine s_aload_n X (pc := 12) (x := a) 0 dX1_init_12 rfl ?_
  refine s_bipush X (pc := 13) (v := 15) dX1_init_13 (by decide) ?_
  refine s_newi2 X (pc := 15) (cells := 1) (slots := 15) (N := 15) (fun q15 => [(a, .inr (1, [.ref q7, .null, .int (0 : Int32)])), (q7, .inl (G.2.1, 15, .inl (fun _ => 0))), (q15, .inl (G.2.1, 15, .inl (fun _ => 0)))]) (fun _ => rfl) kX1_init_ai (by decide) rfl (Nat.le_of_ble_eq_true rfl) (Nat.le_of_ble_eq_true rfl) (Nat.le_of_ble_eq_true rfl) dX1_init_15 (fun q15 => ?_)
  refine s_putF X (pc := 17) (v := .ref q15) (w2 := [(a, .inr (1, [.ref q7, .ref q15, .int (0 : Int32)])), (q7, .inl (G.2.1, 15, .inl (fun _ => 0))), (q15, .inl (G.2.1, 15, .inl (fun _ => 0)))]) iX1_init_X1 0 rfl rfl 1 (by decide) kX1_init_15 rfl hmn tyX1 tyX1_ok nmX1 rfl rfl (ty := tyX1 1) (by decide +kernel) rfl rfl (Nat.le_of_ble_eq_true rfl) rfl dX1_init_17 ?_
  exact s_vretN X (pc := 20) dX1_init_20 (fun k => ([q7, q15, 0] : List Nat).getD k 0) rfl

theorem kX2_init_oi : Cond.methodLink RX2 3 objectInit ∈ wsX2_init := List.mem_of_getElem? (i := 1) rfl
theorem kX2_init_oj : Cond.instanceMethod objectInit ∈ wsX2_init := List.mem_of_getElem? (i := 2) rfl
theorem kX2_init_ok : Cond.code objectInit ⟨#[0xb1]⟩ 1 none ∈ wsX2_init := List.mem_of_getElem? (i := 3) rfl
theorem kX2_init_ai : Cond.arrayClass .int ∈ wsX2_init := List.mem_of_getElem? (i := 4) rfl
theorem kX2_init_9 : Cond.fieldLink RX2 9 "BathingCourt$Day" (TX2 0).2.1 (TX2 0).2.2.1 ∈ wsX2_init := List.mem_of_getElem? (i := 5) rfl
theorem iX2_init_X2 : ∀ z ∈ wsX20, z ∈ wsX2_init := fun z h => List.mem_cons_of_mem _ (List.mem_append_right _ h)
theorem kX2_init_15 : Cond.fieldLink RX2 15 "BathingCourt$Day" (TX2 1).2.1 (TX2 1).2.2.1 ∈ wsX2_init := List.mem_of_getElem? (i := 6) rfl
theorem kX2_init_18 : Cond.fieldLink RX2 18 "BathingCourt$Day" (TX2 2).2.1 (TX2 2).2.2.1 ∈ wsX2_init := List.mem_of_getElem? (i := 7) rfl
theorem kX2_init_21 : Cond.fieldLink RX2 21 "BathingCourt$Day" (TX2 3).2.1 (TX2 3).2.2.1 ∈ wsX2_init := List.mem_of_getElem? (i := 8) rfl
theorem kX2_init_24 : Cond.fieldLink RX2 24 "BathingCourt$Day" (TX2 4).2.1 (TX2 4).2.2.1 ∈ wsX2_init := List.mem_of_getElem? (i := 9) rfl
set_option maxRecDepth 100000 in
set_option maxHeartbeats 4000000 in
theorem c_X2_init (l : Launch) (G : GT) (a : Nat) : Cn l G yX2_init wsX2_init 1 5 22 [] [.ref a] [(a, .inr (2, [.null, .null, .null, .null, .null, .int (0 : Int32)]))] (fun ad : Nat → Nat => wX2 G (cA a ad) (fun _ => 0) (sJ7_fill_53178_free_a 4 (fun _ => 0) (-1 : Int32)) (fun _ => 0) (fun _ => 0) (fun _ => 0) (0 : Int32)) := by
  refine cn_start (by decide) rfl rfl rfl (Nat.le_of_ble_eq_true rfl) ?_
  intro p e s m args below meth c A X hmn hnw
  refine s_perm (lv2 := [(0, .ref a)]) [0] rfl ?_
  refine s_aload_n X (pc := 0) (x := a) 0 dX2_init_0 rfl ?_
  refine s_oinit X (pc := 1) (st := []) (a := a) kX2_init_oi kX2_init_oj kX2_init_ok dX2_init_1 (Nat.le_of_ble_eq_true rfl) (Nat.le_of_ble_eq_true rfl) ?_
  refine s_aload_n X (pc := 4) (x := a) 0 dX2_init_4 rfl ?_
  refine s_iconst X (pc := 5) (v := 4) dX2_init_5 (by decide) ?_
  refine s_newi2 X (pc := 6) (cells := 0) (slots := 0) (N := 4) (fun q6 => [(a, .inr (2, [.null, .null, .null, .null, .null, .int (0 : Int32)])), (q6, .inl (G.2.1, 4, .inl (fun _ => 0)))]) (fun _ => rfl) kX2_init_ai (by decide) rfl (Nat.le_of_ble_eq_true rfl) (Nat.le_of_ble_eq_true rfl) (Nat.le_of_ble_eq_true rfl) dX2_init_6 (fun q6 => ?_)
  refine s_putF X (pc := 8) (v := .ref q6) (w2 := [(a, .inr (2, [.ref q6, .null, .null, .null, .null, .int (0 : Int32)])), (q6, .inl (G.2.1, 4, .inl (fun _ => 0)))]) iX2_init_X2 0 rfl rfl 0 (by decide) kX2_init_9 rfl hmn tyX2 tyX2_ok nmX2 rfl rfl (ty := tyX2 0) (by decide +kernel) rfl rfl (Nat.le_of_ble_eq_true rfl) rfl dX2_init_8 ?_
  refine s_aload_n X (pc := 11) (x := a) 0 dX2_init_11 rfl ?_
  refine s_iconst X (pc := 12) (v := 4) dX2_init_12 (by decide) ?_
  refine s_newi2 X (pc := 13) (cells := 1) (slots := 4) (N := 4) (fun q13 => [(a, .inr (2, [.ref q6, .null, .null, .null, .null, .int (0 : Int32)])), (q6, .inl (G.2.1, 4, .inl (fun _ => 0))), (q13, .inl (G.2.1, 4, .inl (fun _ => 0)))]) (fun _ => rfl) kX2_init_ai (by decide) rfl (Nat.le_of_ble_eq_true rfl) (Nat.le_of_ble_eq_true rfl) (Nat.le_of_ble_eq_true rfl) dX2_init_13 (fun q13 => ?_)
  refine s_putF X (pc := 15) (v := .ref q13) (w2 := [(a, .inr (2, [.ref q6, .ref q13, .null, .null, .null, .int (0 : Int32)])), (q6, .inl (G.2.1, 4, .inl (fun _ => 0))), (q13, .inl (G.2.1, 4, .inl (fun _ => 0)))]) iX2_init_X2 0 rfl rfl 1 (by decide) kX2_init_15 rfl hmn tyX2 tyX2_ok nmX2 rfl rfl (ty := tyX2 1) (by decide +kernel) rfl rfl (Nat.le_of_ble_eq_true rfl) rfl dX2_init_15 ?_
  refine s_aload_n X (pc := 18) (x := a) 0 dX2_init_18 rfl ?_
  refine s_iconst X (pc := 19) (v := 4) dX2_init_19 (by decide) ?_
  refine s_newi2 X (pc := 20) (cells := 2) (slots := 8) (N := 4) (fun q20 => [(a, .inr (2, [.ref q6, .ref q13, .null, .null, .null, .int (0 : Int32)])), (q6, .inl (G.2.1, 4, .inl (fun _ => 0))), (q13, .inl (G.2.1, 4, .inl (fun _ => 0))), (q20, .inl (G.2.1, 4, .inl (fun _ => 0)))]) (fun _ => rfl) kX2_init_ai (by decide) rfl (Nat.le_of_ble_eq_true rfl) (Nat.le_of_ble_eq_true rfl) (Nat.le_of_ble_eq_true rfl) dX2_init_20 (fun q20 => ?_)
  refine s_putF X (pc := 22) (v := .ref q20) (w2 := [(a, .inr (2, [.ref q6, .ref q13, .ref q20, .null, .null, .int (0 : Int32)])), (q6, .inl (G.2.1, 4, .inl (fun _ => 0))), (q13, .inl (G.2.1, 4, .inl (fun _ => 0))), (q20, .inl (G.2.1, 4, .inl (fun _ => 0)))]) iX2_init_X2 0 rfl rfl 2 (by decide) kX2_init_18 rfl hmn tyX2 tyX2_ok nmX2 rfl rfl (ty := tyX2 2) (by decide +kernel) rfl rfl (Nat.le_of_ble_eq_true rfl) rfl dX2_init_22 ?_
  refine s_aload_n X (pc := 25) (x := a) 0 dX2_init_25 rfl ?_
  refine s_iconst X (pc := 26) (v := 5) dX2_init_26 (by decide) ?_
  refine s_newi2 X (pc := 27) (cells := 3) (slots := 12) (N := 5) (fun q27 => [(a, .inr (2, [.ref q6, .ref q13, .ref q20, .null, .null, .int (0 : Int32)])), (q6, .inl (G.2.1, 4, .inl (fun _ => 0))), (q13, .inl (G.2.1, 4, .inl (fun _ => 0))), (q20, .inl (G.2.1, 4, .inl (fun _ => 0))), (q27, .inl (G.2.1, 5, .inl (fun _ => 0)))]) (fun _ => rfl) kX2_init_ai (by decide) rfl (Nat.le_of_ble_eq_true rfl) (Nat.le_of_ble_eq_true rfl) (Nat.le_of_ble_eq_true rfl) dX2_init_27 (fun q27 => ?_)
  refine s_putF X (pc := 29) (v := .ref q27) (w2 := [(a, .inr (2, [.ref q6, .ref q13, .ref q20, .ref q27, .null, .int (0 : Int32)])), (q6, .inl (G.2.1, 4, .inl (fun _ => 0))), (q13, .inl (G.2.1, 4, .inl (fun _ => 0))), (q20, .inl (G.2.1, 4, .inl (fun _ => 0))), (q27, .inl (G.2.1, 5, .inl (fun _ => 0)))]) iX2_init_X2 0 rfl rfl 3 (by decide) kX2_init_21 rfl hmn tyX2 tyX2_ok nmX2 rfl rfl (ty := tyX2 3) (by decide +kernel) rfl rfl (Nat.le_of_ble_eq_true rfl) rfl dX2_init_29 ?_
  refine s_aload_n X (pc := 32) (x := a) 0 dX2_init_32 rfl ?_
  refine s_iconst X (pc := 33) (v := 5) dX2_init_33 (by decide) ?_
  refine s_newi2 X (pc := 34) (cells := 4) (slots := 17) (N := 5) (fun q34 => [(a, .inr (2, [.ref q6, .ref q13, .ref q20, .ref q27, .null, .int (0 : Int32)])), (q6, .inl (G.2.1, 4, .inl (fun _ => 0))), (q13, .inl (G.2.1, 4, .inl (fun _ => 0))), (q20, .inl (G.2.1, 4, .inl (fun _ => 0))), (q27, .inl (G.2.1, 5, .inl (fun _ => 0))), (q34, .inl (G.2.1, 5, .inl (fun _ => 0)))]) (fun _ => rfl) kX2_init_ai (by decide) rfl (Nat.le_of_ble_eq_true rfl) (Nat.le_of_ble_eq_true rfl) (Nat.le_of_ble_eq_true rfl) dX2_init_34 (fun q34 => ?_)
  refine s_putF X (pc := 36) (v := .ref q34) (w2 := [(a, .inr (2, [.ref q6, .ref q13, .ref q20, .ref q27, .ref q34, .int (0 : Int32)])), (q6, .inl (G.2.1, 4, .inl (fun _ => 0))), (q13, .inl (G.2.1, 4, .inl (fun _ => 0))), (q20, .inl (G.2.1, 4, .inl (fun _ => 0))), (q27, .inl (G.2.1, 5, .inl (fun _ => 0))), (q34, .inl (G.2.1, 5, .inl (fun _ => 0)))]) iX2_init_X2 0 rfl rfl 4 (by decide) kX2_init_24 rfl hmn tyX2 tyX2_ok nmX2 rfl rfl (ty := tyX2 4) (by decide +kernel) rfl rfl (Nat.le_of_ble_eq_true rfl) rfl dX2_init_36 ?_
  refine s_aload_n X (pc := 39) (x := a) 0 dX2_init_39 rfl ?_
  refine s_get X (pc := 40) (v := .ref q13) iX2_init_X2 0 rfl rfl 1 (by decide) kX2_init_15 rfl rfl dX2_init_40 ?_
  refine s_iconst X (pc := 43) (v := -1) dX2_init_43 (by decide) ?_
  refine s_callSv X (pc := 44) (cells := 5) (slots := 22) (w := [(a, .inr (2, [.ref q6, .ref q13, .ref q20, .ref q27, .ref q34, .int (0 : Int32)])), (q6, .inl (G.2.1, 4, .inl (fun _ => 0))), (q13, .inl (G.2.1, 4, .inl (fun _ => 0))), (q20, .inl (G.2.1, 4, .inl (fun _ => 0))), (q27, .inl (G.2.1, 5, .inl (fun _ => 0))), (q34, .inl (G.2.1, 5, .inl (fun _ => 0)))]) (n := 2) (st := []) (As := [.ref q13, .int (-1 : Int32)]) (w2 := [(a, .inr (2, [.ref q6, .ref q13, .ref q20, .ref q27, .ref q34, .int (0 : Int32)])), (q6, .inl (G.2.1, 4, .inl (fun _ => 0))), (q13, .inl (G.2.1, 4, .inl (sJ7_fill_53178_free_a 4 (fun _ => 0) (-1 : Int32)))), (q20, .inl (G.2.1, 4, .inl (fun _ => 0))), (q27, .inl (G.2.1, 5, .inl (fun _ => 0))), (q34, .inl (G.2.1, 5, .inl (fun _ => 0)))]) 0 (c_J7_fill_53178 l G q13 4 (fun _ => 0) (-1 : Int32) (by decide)) gX2_init_J7_fill_53178 rfl (by decide +kernel) ⟨(Nat.le_of_ble_eq_true rfl), (Nat.le_of_ble_eq_true rfl)⟩ [2] rfl rfl rfl rfl [a, q6, q13, q20, q27, q34] rfl rfl rfl rfl (Nat.le_of_ble_eq_true rfl) (Nat.le_of_ble_eq_true rfl) (Nat.le_of_ble_eq_true rfl) dX2_init_44 ?_
  exact s_vretN X (pc := 47) dX2_init_47 (fun k => ([q6, q13, q20, q27, q34, 0] : List Nat).getD k 0) rfl

theorem kX3_init_oi : Cond.methodLink RX3 3 objectInit ∈ wsX3_init := List.mem_of_getElem? (i := 1) rfl
theorem kX3_init_oj : Cond.instanceMethod objectInit ∈ wsX3_init := List.mem_of_getElem? (i := 2) rfl
theorem kX3_init_ok : Cond.code objectInit ⟨#[0xb1]⟩ 1 none ∈ wsX3_init := List.mem_of_getElem? (i := 3) rfl
set_option maxRecDepth 100000 in
set_option maxHeartbeats 4000000 in
theorem c_X3_init (l : Launch) (G : GT) (a : Nat) : Cn l G yX3_init wsX3_init 0 0 0 [] [.ref a] [(a, .inr (3, [.int (0 : Int32)]))] (fun ad : Nat → Nat => wX3 G (cA a ad) (0 : Int32)) := by
  refine cn_start (by decide) rfl rfl rfl (Nat.le_of_ble_eq_true rfl) ?_
  intro p e s m args below meth c A X hmn hnw
  refine s_perm (lv2 := [(0, .ref a)]) [0] rfl ?_
  refine s_aload_n X (pc := 0) (x := a) 0 dX3_init_0 rfl ?_
  refine s_oinit X (pc := 1) (st := []) (a := a) kX3_init_oi kX3_init_oj kX3_init_ok dX3_init_1 (Nat.le_of_ble_eq_true rfl) (Nat.le_of_ble_eq_true rfl) ?_
  exact s_vretN X (pc := 4) dX3_init_4 (fun k => ([0] : List Nat).getD k 0) rfl

theorem kX4_init_oi : Cond.methodLink RX4 3 objectInit ∈ wsX4_init := List.mem_of_getElem? (i := 1) rfl
theorem kX4_init_oj : Cond.instanceMethod objectInit ∈ wsX4_init := List.mem_of_getElem? (i := 2) rfl
theorem kX4_init_ok : Cond.code objectInit ⟨#[0xb1]⟩ 1 none ∈ wsX4_init := List.mem_of_getElem? (i := 3) rfl
theorem kX4_init_ai : Cond.arrayClass .int ∈ wsX4_init := List.mem_of_getElem? (i := 4) rfl
theorem kX4_init_9 : Cond.fieldLink RX4 9 "BathingCourt$Ear" (TX4 0).2.1 (TX4 0).2.2.1 ∈ wsX4_init := List.mem_of_getElem? (i := 5) rfl
theorem iX4_init_X4 : ∀ z ∈ wsX40, z ∈ wsX4_init := fun z h => List.mem_cons_of_mem _ (List.mem_append_right _ h)
theorem kX4_init_ab : Cond.arrayClass .boolean ∈ wsX4_init := List.mem_of_getElem? (i := 6) rfl
theorem kX4_init_15 : Cond.fieldLink RX4 15 "BathingCourt$Ear" (TX4 1).2.1 (TX4 1).2.2.1 ∈ wsX4_init := List.mem_of_getElem? (i := 7) rfl
set_option maxRecDepth 100000 in
set_option maxHeartbeats 4000000 in
theorem c_X4_init (l : Launch) (G : GT) (a : Nat) : Cn l G yX4_init wsX4_init 0 2 12 [] [.ref a] [(a, .inr (4, [.null, .null, .int (0 : Int32)]))] (fun ad : Nat → Nat => wX4 G (cA a ad) (fun _ => 0) (fun _ => 0) (0 : Int32)) := by
  refine cn_start (by decide) rfl rfl rfl (Nat.le_of_ble_eq_true rfl) ?_
  intro p e s m args below meth c A X hmn hnw
  refine s_perm (lv2 := [(0, .ref a)]) [0] rfl ?_
  refine s_aload_n X (pc := 0) (x := a) 0 dX4_init_0 rfl ?_
  refine s_oinit X (pc := 1) (st := []) (a := a) kX4_init_oi kX4_init_oj kX4_init_ok dX4_init_1 (Nat.le_of_ble_eq_true rfl) (Nat.le_of_ble_eq_true rfl) ?_
  refine s_aload_n X (pc := 4) (x := a) 0 dX4_init_4 rfl ?_
  refine s_bipush X (pc := 5) (v := 6) dX4_init_5 (by decide) ?_
  refine s_newi2 X (pc := 7) (cells := 0) (slots := 0) (N := 6) (fun q7 => [(a, .inr (4, [.null, .null, .int (0 : Int32)])), (q7, .inl (G.2.1, 6, .inl (fun _ => 0)))]) (fun _ => rfl) kX4_init_ai (by decide) rfl (Nat.le_of_ble_eq_true rfl) (Nat.le_of_ble_eq_true rfl) (Nat.le_of_ble_eq_true rfl) dX4_init_7 (fun q7 => ?_)
  refine s_putF X (pc := 9) (v := .ref q7) (w2 := [(a, .inr (4, [.ref q7, .null, .int (0 : Int32)])), (q7, .inl (G.2.1, 6, .inl (fun _ => 0)))]) iX4_init_X4 0 rfl rfl 0 (by decide) kX4_init_9 rfl hmn tyX4 tyX4_ok nmX4 rfl rfl (ty := tyX4 0) (by decide +kernel) rfl rfl (Nat.le_of_ble_eq_true rfl) rfl dX4_init_9 ?_
  refine s_aload_n X (pc := 12) (x := a) 0 dX4_init_12 rfl ?_
  refine s_bipush X (pc := 13) (v := 6) dX4_init_13 (by decide) ?_
  refine s_newz2 X (pc := 15) (cells := 1) (slots := 6) (N := 6) (fun q15 => [(a, .inr (4, [.ref q7, .null, .int (0 : Int32)])), (q7, .inl (G.2.1, 6, .inl (fun _ => 0))), (q15, .inl (G.2.2, 6, .inl (fun _ => 0)))]) (fun _ => rfl) kX4_init_ab (by decide) rfl (Nat.le_of_ble_eq_true rfl) (Nat.le_of_ble_eq_true rfl) (Nat.le_of_ble_eq_true rfl) dX4_init_15 (fun q15 => ?_)
  refine s_putF X (pc := 17) (v := .ref q15) (w2 := [(a, .inr (4, [.ref q7, .ref q15, .int (0 : Int32)])), (q7, .inl (G.2.1, 6, .inl (fun _ => 0))), (q15, .inl (G.2.2, 6, .inl (fun _ => 0)))]) iX4_init_X4 0 rfl rfl 1 (by decide) kX4_init_15 rfl hmn tyX4 tyX4_ok nmX4 rfl rfl (ty := tyX4 1) (by decide +kernel) rfl rfl (Nat.le_of_ble_eq_true rfl) rfl dX4_init_17 ?_
  exact s_vretN X (pc := 20) dX4_init_20 (fun k => ([q7, q15, 0] : List Nat).getD k 0) rfl

theorem kX5_init_oi : Cond.methodLink RX5 3 objectInit ∈ wsX5_init := List.mem_of_getElem? (i := 1) rfl
theorem kX5_init_oj : Cond.instanceMethod objectInit ∈ wsX5_init := List.mem_of_getElem? (i := 2) rfl
theorem kX5_init_ok : Cond.code objectInit ⟨#[0xb1]⟩ 1 none ∈ wsX5_init := List.mem_of_getElem? (i := 3) rfl
theorem kX5_init_ai : Cond.arrayClass .int ∈ wsX5_init := List.mem_of_getElem? (i := 4) rfl
theorem kX5_init_11 : Cond.fieldLink RX5 11 "BathingCourt$Images" (TX5 0).2.1 (TX5 0).2.2.1 ∈ wsX5_init := List.mem_of_getElem? (i := 5) rfl
theorem iX5_init_X5 : ∀ z ∈ wsX50, z ∈ wsX5_init := fun z h => List.mem_cons_of_mem _ (List.mem_append_right _ h)
theorem kX5_init_17 : Cond.fieldLink RX5 17 "BathingCourt$Images" (TX5 1).2.1 (TX5 1).2.2.1 ∈ wsX5_init := List.mem_of_getElem? (i := 6) rfl
theorem kX5_init_ab : Cond.arrayClass .boolean ∈ wsX5_init := List.mem_of_getElem? (i := 7) rfl
theorem kX5_init_20 : Cond.fieldLink RX5 20 "BathingCourt$Images" (TX5 2).2.1 (TX5 2).2.2.1 ∈ wsX5_init := List.mem_of_getElem? (i := 8) rfl
set_option maxRecDepth 100000 in
set_option maxHeartbeats 4000000 in
theorem c_X5_init (l : Launch) (G : GT) (a : Nat) : Cn l G yX5_init wsX5_init 0 3 50 [] [.ref a] [(a, .inr (5, [.null, .null, .null]))] (fun ad : Nat → Nat => wX5 G (cA a ad) (fun _ => 0) (fun _ => 0) (fun _ => 0)) := by
  refine cn_start (by decide) rfl rfl rfl (Nat.le_of_ble_eq_true rfl) ?_
  intro p e s m args below meth c A X hmn hnw
  refine s_perm (lv2 := [(0, .ref a)]) [0] rfl ?_
  refine s_aload_n X (pc := 0) (x := a) 0 dX5_init_0 rfl ?_
  refine s_oinit X (pc := 1) (st := []) (a := a) kX5_init_oi kX5_init_oj kX5_init_ok dX5_init_1 (Nat.le_of_ble_eq_true rfl) (Nat.le_of_ble_eq_true rfl) ?_
  refine s_aload_n X (pc := 4) (x := a) 0 dX5_init_4 rfl ?_
  refine s_bipush X (pc := 5) (v := 46) dX5_init_5 (by decide) ?_
  refine s_newi2 X (pc := 7) (cells := 0) (slots := 0) (N := 46) (fun q7 => [(a, .inr (5, [.null, .null, .null])), (q7, .inl (G.2.1, 46, .inl (fun _ => 0)))]) (fun _ => rfl) kX5_init_ai (by decide) rfl (Nat.le_of_ble_eq_true rfl) (Nat.le_of_ble_eq_true rfl) (Nat.le_of_ble_eq_true rfl) dX5_init_7 (fun q7 => ?_)
  refine s_putF X (pc := 9) (v := .ref q7) (w2 := [(a, .inr (5, [.ref q7, .null, .null])), (q7, .inl (G.2.1, 46, .inl (fun _ => 0)))]) iX5_init_X5 0 rfl rfl 0 (by decide) kX5_init_11 rfl hmn tyX5 tyX5_ok nmX5 rfl rfl (ty := tyX5 0) (by decide +kernel) rfl rfl (Nat.le_of_ble_eq_true rfl) rfl dX5_init_9 ?_
  refine s_aload_n X (pc := 12) (x := a) 0 dX5_init_12 rfl ?_
  refine s_iconst X (pc := 13) (v := 2) dX5_init_13 (by decide) ?_
  refine s_newi2 X (pc := 14) (cells := 1) (slots := 46) (N := 2) (fun q14 => [(a, .inr (5, [.ref q7, .null, .null])), (q7, .inl (G.2.1, 46, .inl (fun _ => 0))), (q14, .inl (G.2.1, 2, .inl (fun _ => 0)))]) (fun _ => rfl) kX5_init_ai (by decide) rfl (Nat.le_of_ble_eq_true rfl) (Nat.le_of_ble_eq_true rfl) (Nat.le_of_ble_eq_true rfl) dX5_init_14 (fun q14 => ?_)
  refine s_putF X (pc := 16) (v := .ref q14) (w2 := [(a, .inr (5, [.ref q7, .ref q14, .null])), (q7, .inl (G.2.1, 46, .inl (fun _ => 0))), (q14, .inl (G.2.1, 2, .inl (fun _ => 0)))]) iX5_init_X5 0 rfl rfl 1 (by decide) kX5_init_17 rfl hmn tyX5 tyX5_ok nmX5 rfl rfl (ty := tyX5 1) (by decide +kernel) rfl rfl (Nat.le_of_ble_eq_true rfl) rfl dX5_init_16 ?_
  refine s_aload_n X (pc := 19) (x := a) 0 dX5_init_19 rfl ?_
  refine s_iconst X (pc := 20) (v := 2) dX5_init_20 (by decide) ?_
  refine s_newz2 X (pc := 21) (cells := 2) (slots := 48) (N := 2) (fun q21 => [(a, .inr (5, [.ref q7, .ref q14, .null])), (q7, .inl (G.2.1, 46, .inl (fun _ => 0))), (q14, .inl (G.2.1, 2, .inl (fun _ => 0))), (q21, .inl (G.2.2, 2, .inl (fun _ => 0)))]) (fun _ => rfl) kX5_init_ab (by decide) rfl (Nat.le_of_ble_eq_true rfl) (Nat.le_of_ble_eq_true rfl) (Nat.le_of_ble_eq_true rfl) dX5_init_21 (fun q21 => ?_)
  refine s_putF X (pc := 23) (v := .ref q21) (w2 := [(a, .inr (5, [.ref q7, .ref q14, .ref q21])), (q7, .inl (G.2.1, 46, .inl (fun _ => 0))), (q14, .inl (G.2.1, 2, .inl (fun _ => 0))), (q21, .inl (G.2.2, 2, .inl (fun _ => 0)))]) iX5_init_X5 0 rfl rfl 2 (by decide) kX5_init_20 rfl hmn tyX5 tyX5_ok nmX5 rfl rfl (ty := tyX5 2) (by decide +kernel) rfl rfl (Nat.le_of_ble_eq_true rfl) rfl dX5_init_23 ?_
  exact s_vretN X (pc := 26) dX5_init_26 (fun k => ([q7, q14, q21] : List Nat).getD k 0) rfl

theorem kX6_init_oi : Cond.methodLink RX6 3 objectInit ∈ wsX6_init := List.mem_of_getElem? (i := 1) rfl
theorem kX6_init_oj : Cond.instanceMethod objectInit ∈ wsX6_init := List.mem_of_getElem? (i := 2) rfl
theorem kX6_init_ok : Cond.code objectInit ⟨#[0xb1]⟩ 1 none ∈ wsX6_init := List.mem_of_getElem? (i := 3) rfl
theorem kX6_init_ai : Cond.arrayClass .int ∈ wsX6_init := List.mem_of_getElem? (i := 4) rfl
theorem kX6_init_11 : Cond.fieldLink RX6 11 "BathingCourt$Past" (TX6 0).2.1 (TX6 0).2.2.1 ∈ wsX6_init := List.mem_of_getElem? (i := 5) rfl
theorem iX6_init_X6 : ∀ z ∈ wsX60, z ∈ wsX6_init := fun z h => List.mem_cons_of_mem _ (List.mem_append_right _ h)
set_option maxRecDepth 100000 in
set_option maxHeartbeats 4000000 in
theorem c_X6_init (l : Launch) (G : GT) (a : Nat) : Cn l G yX6_init wsX6_init 0 1 460 [] [.ref a] [(a, .inr (6, [.null, .int (0 : Int32), .int (0 : Int32)]))] (fun ad : Nat → Nat => wX6 G (cA a ad) (fun _ => 0) (0 : Int32) (0 : Int32)) := by
  refine cn_start (by decide) rfl rfl rfl (Nat.le_of_ble_eq_true rfl) ?_
  intro p e s m args below meth c A X hmn hnw
  refine s_perm (lv2 := [(0, .ref a)]) [0] rfl ?_
  refine s_aload_n X (pc := 0) (x := a) 0 dX6_init_0 rfl ?_
  refine s_oinit X (pc := 1) (st := []) (a := a) kX6_init_oi kX6_init_oj kX6_init_ok dX6_init_1 (Nat.le_of_ble_eq_true rfl) (Nat.le_of_ble_eq_true rfl) ?_
  refine s_aload_n X (pc := 4) (x := a) 0 dX6_init_4 rfl ?_
  refine s_sipush X (pc := 5) (v := 460) dX6_init_5 (by decide) ?_
  refine s_newi2 X (pc := 8) (cells := 0) (slots := 0) (N := 460) (fun q8 => [(a, .inr (6, [.null, .int (0 : Int32), .int (0 : Int32)])), (q8, .inl (G.2.1, 460, .inl (fun _ => 0)))]) (fun _ => rfl) kX6_init_ai (by decide) rfl (Nat.le_of_ble_eq_true rfl) (Nat.le_of_ble_eq_true rfl) (Nat.le_of_ble_eq_true rfl) dX6_init_8 (fun q8 => ?_)
  refine s_putF X (pc := 10) (v := .ref q8) (w2 := [(a, .inr (6, [.ref q8, .int (0 : Int32), .int (0 : Int32)])), (q8, .inl (G.2.1, 460, .inl (fun _ => 0)))]) iX6_init_X6 0 rfl rfl 0 (by decide) kX6_init_11 rfl hmn tyX6 tyX6_ok nmX6 rfl rfl (ty := tyX6 0) (by decide +kernel) rfl rfl (Nat.le_of_ble_eq_true rfl) rfl dX6_init_10 ?_
  exact s_vretN X (pc := 13) dX6_init_13 (fun k => ([q8, 0, 0] : List Nat).getD k 0) rfl

theorem kX7_init_oi : Cond.methodLink RX7 3 objectInit ∈ wsX7_init := List.mem_of_getElem? (i := 1) rfl
theorem kX7_init_oj : Cond.instanceMethod objectInit ∈ wsX7_init := List.mem_of_getElem? (i := 2) rfl
theorem kX7_init_ok : Cond.code objectInit ⟨#[0xb1]⟩ 1 none ∈ wsX7_init := List.mem_of_getElem? (i := 3) rfl
theorem kX7_init_ab : Cond.arrayClass .boolean ∈ wsX7_init := List.mem_of_getElem? (i := 4) rfl
theorem kX7_init_9 : Cond.fieldLink RX7 9 "BathingCourt$Planner" (TX7 0).2.1 (TX7 0).2.2.1 ∈ wsX7_init := List.mem_of_getElem? (i := 5) rfl
theorem iX7_init_X7 : ∀ z ∈ wsX70, z ∈ wsX7_init := fun z h => List.mem_cons_of_mem _ (List.mem_append_right _ h)
theorem kX7_init_ai : Cond.arrayClass .int ∈ wsX7_init := List.mem_of_getElem? (i := 6) rfl
theorem kX7_init_15 : Cond.fieldLink RX7 15 "BathingCourt$Planner" (TX7 1).2.1 (TX7 1).2.2.1 ∈ wsX7_init := List.mem_of_getElem? (i := 7) rfl
theorem kX7_init_19 : Cond.fieldLink RX7 19 "BathingCourt$Planner" (TX7 2).2.1 (TX7 2).2.2.1 ∈ wsX7_init := List.mem_of_getElem? (i := 8) rfl
theorem kX7_init_22 : Cond.fieldLink RX7 22 "BathingCourt$Planner" (TX7 3).2.1 (TX7 3).2.2.1 ∈ wsX7_init := List.mem_of_getElem? (i := 9) rfl
theorem kX7_init_25 : Cond.fieldLink RX7 25 "BathingCourt$Planner" (TX7 4).2.1 (TX7 4).2.2.1 ∈ wsX7_init := List.mem_of_getElem? (i := 10) rfl
theorem kX7_init_28 : Cond.fieldLink RX7 28 "BathingCourt$Planner" (TX7 5).2.1 (TX7 5).2.2.1 ∈ wsX7_init := List.mem_of_getElem? (i := 11) rfl
theorem kX7_init_31 : Cond.fieldLink RX7 31 "BathingCourt$Planner" (TX7 8).2.1 (TX7 8).2.2.1 ∈ wsX7_init := List.mem_of_getElem? (i := 12) rfl
set_option maxRecDepth 100000 in
set_option maxHeartbeats 4000000 in
theorem c_X7_init (l : Launch) (G : GT) (a : Nat) : Cn l G yX7_init wsX7_init 0 6 37 [] [.ref a] [(a, .inr (7, [.null, .null, .null, .null, .null, .null, .int (0 : Int32), .int (0 : Int32), .int (0 : Int32)]))] (fun ad : Nat → Nat => wX7 G (cA a ad) (fun _ => 0) (fun _ => 0) (fun _ => 0) (fun _ => 0) (fun _ => 0) (fun _ => 0) (0 : Int32) (0 : Int32) (13 : Int32)) := by
  refine cn_start (by decide) rfl rfl rfl (Nat.le_of_ble_eq_true rfl) ?_
  intro p e s m args below meth c A X hmn hnw
  refine s_perm (lv2 := [(0, .ref a)]) [0] rfl ?_
  refine s_aload_n X (pc := 0) (x := a) 0 dX7_init_0 rfl ?_
  refine s_oinit X (pc := 1) (st := []) (a := a) kX7_init_oi kX7_init_oj kX7_init_ok dX7_init_1 (Nat.le_of_ble_eq_true rfl) (Nat.le_of_ble_eq_true rfl) ?_
  refine s_aload_n X (pc := 4) (x := a) 0 dX7_init_4 rfl ?_
  refine s_iconst X (pc := 5) (v := 5) dX7_init_5 (by decide) ?_
  refine s_newz2 X (pc := 6) (cells := 0) (slots := 0) (N := 5) (fun q6 => [(a, .inr (7, [.null, .null, .null, .null, .null, .null, .int (0 : Int32), .int (0 : Int32), .int (0 : Int32)])), (q6, .inl (G.2.2, 5, .inl (fun _ => 0)))]) (fun _ => rfl) kX7_init_ab (by decide) rfl (Nat.le_of_ble_eq_true rfl) (Nat.le_of_ble_eq_true rfl) (Nat.le_of_ble_eq_true rfl) dX7_init_6 (fun q6 => ?_)
  refine s_putF X (pc := 8) (v := .ref q6) (w2 := [(a, .inr (7, [.ref q6, .null, .null, .null, .null, .null, .int (0 : Int32), .int (0 : Int32), .int (0 : Int32)])), (q6, .inl (G.2.2, 5, .inl (fun _ => 0)))]) iX7_init_X7 0 rfl rfl 0 (by decide) kX7_init_9 rfl hmn tyX7 tyX7_ok nmX7 rfl rfl (ty := tyX7 0) (by decide +kernel) rfl rfl (Nat.le_of_ble_eq_true rfl) rfl dX7_init_8 ?_
  refine s_aload_n X (pc := 11) (x := a) 0 dX7_init_11 rfl ?_
  refine s_iconst X (pc := 12) (v := 5) dX7_init_12 (by decide) ?_
  refine s_newi2 X (pc := 13) (cells := 1) (slots := 5) (N := 5) (fun q13 => [(a, .inr (7, [.ref q6, .null, .null, .null, .null, .null, .int (0 : Int32), .int (0 : Int32), .int (0 : Int32)])), (q6, .inl (G.2.2, 5, .inl (fun _ => 0))), (q13, .inl (G.2.1, 5, .inl (fun _ => 0)))]) (fun _ => rfl) kX7_init_ai (by decide) rfl (Nat.le_of_ble_eq_true rfl) (Nat.le_of_ble_eq_true rfl) (Nat.le_of_ble_eq_true rfl) dX7_init_13 (fun q13 => ?_)
  refine s_putF X (pc := 15) (v := .ref q13) (w2 := [(a, .inr (7, [.ref q6, .ref q13, .null, .null, .null, .null, .int (0 : Int32), .int (0 : Int32), .int (0 : Int32)])), (q6, .inl (G.2.2, 5, .inl (fun _ => 0))), (q13, .inl (G.2.1, 5, .inl (fun _ => 0)))]) iX7_init_X7 0 rfl rfl 1 (by decide) kX7_init_15 rfl hmn tyX7 tyX7_ok nmX7 rfl rfl (ty := tyX7 1) (by decide +kernel) rfl rfl (Nat.le_of_ble_eq_true rfl) rfl dX7_init_15 ?_
  refine s_aload_n X (pc := 18) (x := a) 0 dX7_init_18 rfl ?_
  refine s_iconst X (pc := 19) (v := 5) dX7_init_19 (by decide) ?_
  refine s_newi2 X (pc := 20) (cells := 2) (slots := 10) (N := 5) (fun q20 => [(a, .inr (7, [.ref q6, .ref q13, .null, .null, .null, .null, .int (0 : Int32), .int (0 : Int32), .int (0 : Int32)])), (q6, .inl (G.2.2, 5, .inl (fun _ => 0))), (q13, .inl (G.2.1, 5, .inl (fun _ => 0))), (q20, .inl (G.2.1, 5, .inl (fun _ => 0)))]) (fun _ => rfl) kX7_init_ai (by decide) rfl (Nat.le_of_ble_eq_true rfl) (Nat.le_of_ble_eq_true rfl) (Nat.le_of_ble_eq_true rfl) dX7_init_20 (fun q20 => ?_)
  refine s_putF X (pc := 22) (v := .ref q20) (w2 := [(a, .inr (7, [.ref q6, .ref q13, .ref q20, .null, .null, .null, .int (0 : Int32), .int (0 : Int32), .int (0 : Int32)])), (q6, .inl (G.2.2, 5, .inl (fun _ => 0))), (q13, .inl (G.2.1, 5, .inl (fun _ => 0))), (q20, .inl (G.2.1, 5, .inl (fun _ => 0)))]) iX7_init_X7 0 rfl rfl 2 (by decide) kX7_init_19 rfl hmn tyX7 tyX7_ok nmX7 rfl rfl (ty := tyX7 2) (by decide +kernel) rfl rfl (Nat.le_of_ble_eq_true rfl) rfl dX7_init_22 ?_
  refine s_aload_n X (pc := 25) (x := a) 0 dX7_init_25 rfl ?_
  refine s_iconst X (pc := 26) (v := 5) dX7_init_26 (by decide) ?_
  refine s_newi2 X (pc := 27) (cells := 3) (slots := 15) (N := 5) (fun q27 => [(a, .inr (7, [.ref q6, .ref q13, .ref q20, .null, .null, .null, .int (0 : Int32), .int (0 : Int32), .int (0 : Int32)])), (q6, .inl (G.2.2, 5, .inl (fun _ => 0))), (q13, .inl (G.2.1, 5, .inl (fun _ => 0))), (q20, .inl (G.2.1, 5, .inl (fun _ => 0))), (q27, .inl (G.2.1, 5, .inl (fun _ => 0)))]) (fun _ => rfl) kX7_init_ai (by decide) rfl (Nat.le_of_ble_eq_true rfl) (Nat.le_of_ble_eq_true rfl) (Nat.le_of_ble_eq_true rfl) dX7_init_27 (fun q27 => ?_)
  refine s_putF X (pc := 29) (v := .ref q27) (w2 := [(a, .inr (7, [.ref q6, .ref q13, .ref q20, .ref q27, .null, .null, .int (0 : Int32), .int (0 : Int32), .int (0 : Int32)])), (q6, .inl (G.2.2, 5, .inl (fun _ => 0))), (q13, .inl (G.2.1, 5, .inl (fun _ => 0))), (q20, .inl (G.2.1, 5, .inl (fun _ => 0))), (q27, .inl (G.2.1, 5, .inl (fun _ => 0)))]) iX7_init_X7 0 rfl rfl 3 (by decide) kX7_init_22 rfl hmn tyX7 tyX7_ok nmX7 rfl rfl (ty := tyX7 3) (by decide +kernel) rfl rfl (Nat.le_of_ble_eq_true rfl) rfl dX7_init_29 ?_
  refine s_aload_n X (pc := 32) (x := a) 0 dX7_init_32 rfl ?_
  refine s_iconst X (pc := 33) (v := 5) dX7_init_33 (by decide) ?_
  refine s_newi2 X (pc := 34) (cells := 4) (slots := 20) (N := 5) (fun q34 => [(a, .inr (7, [.ref q6, .ref q13, .ref q20, .ref q27, .null, .null, .int (0 : Int32), .int (0 : Int32), .int (0 : Int32)])), (q6, .inl (G.2.2, 5, .inl (fun _ => 0))), (q13, .inl (G.2.1, 5, .inl (fun _ => 0))), (q20, .inl (G.2.1, 5, .inl (fun _ => 0))), (q27, .inl (G.2.1, 5, .inl (fun _ => 0))), (q34, .inl (G.2.1, 5, .inl (fun _ => 0)))]) (fun _ => rfl) kX7_init_ai (by decide) rfl (Nat.le_of_ble_eq_true rfl) (Nat.le_of_ble_eq_true rfl) (Nat.le_of_ble_eq_true rfl) dX7_init_34 (fun q34 => ?_)
  refine s_putF X (pc := 36) (v := .ref q34) (w2 := [(a, .inr (7, [.ref q6, .ref q13, .ref q20, .ref q27, .ref q34, .null, .int (0 : Int32), .int (0 : Int32), .int (0 : Int32)])), (q6, .inl (G.2.2, 5, .inl (fun _ => 0))), (q13, .inl (G.2.1, 5, .inl (fun _ => 0))), (q20, .inl (G.2.1, 5, .inl (fun _ => 0))), (q27, .inl (G.2.1, 5, .inl (fun _ => 0))), (q34, .inl (G.2.1, 5, .inl (fun _ => 0)))]) iX7_init_X7 0 rfl rfl 4 (by decide) kX7_init_25 rfl hmn tyX7 tyX7_ok nmX7 rfl rfl (ty := tyX7 4) (by decide +kernel) rfl rfl (Nat.le_of_ble_eq_true rfl) rfl dX7_init_36 ?_
  refine s_aload_n X (pc := 39) (x := a) 0 dX7_init_39 rfl ?_
  refine s_bipush X (pc := 40) (v := 12) dX7_init_40 (by decide) ?_
  refine s_newi2 X (pc := 42) (cells := 5) (slots := 25) (N := 12) (fun q42 => [(a, .inr (7, [.ref q6, .ref q13, .ref q20, .ref q27, .ref q34, .null, .int (0 : Int32), .int (0 : Int32), .int (0 : Int32)])), (q6, .inl (G.2.2, 5, .inl (fun _ => 0))), (q13, .inl (G.2.1, 5, .inl (fun _ => 0))), (q20, .inl (G.2.1, 5, .inl (fun _ => 0))), (q27, .inl (G.2.1, 5, .inl (fun _ => 0))), (q34, .inl (G.2.1, 5, .inl (fun _ => 0))), (q42, .inl (G.2.1, 12, .inl (fun _ => 0)))]) (fun _ => rfl) kX7_init_ai (by decide) rfl (Nat.le_of_ble_eq_true rfl) (Nat.le_of_ble_eq_true rfl) (Nat.le_of_ble_eq_true rfl) dX7_init_42 (fun q42 => ?_)
  refine s_putF X (pc := 44) (v := .ref q42) (w2 := [(a, .inr (7, [.ref q6, .ref q13, .ref q20, .ref q27, .ref q34, .ref q42, .int (0 : Int32), .int (0 : Int32), .int (0 : Int32)])), (q6, .inl (G.2.2, 5, .inl (fun _ => 0))), (q13, .inl (G.2.1, 5, .inl (fun _ => 0))), (q20, .inl (G.2.1, 5, .inl (fun _ => 0))), (q27, .inl (G.2.1, 5, .inl (fun _ => 0))), (q34, .inl (G.2.1, 5, .inl (fun _ => 0))), (q42, .inl (G.2.1, 12, .inl (fun _ => 0)))]) iX7_init_X7 0 rfl rfl 5 (by decide) kX7_init_28 rfl hmn tyX7 tyX7_ok nmX7 rfl rfl (ty := tyX7 5) (by decide +kernel) rfl rfl (Nat.le_of_ble_eq_true rfl) rfl dX7_init_44 ?_
  refine s_aload_n X (pc := 47) (x := a) 0 dX7_init_47 rfl ?_
  refine s_bipush X (pc := 48) (v := 13) dX7_init_48 (by decide) ?_
  refine s_put X (pc := 50) (v := .int (13 : Int32)) (w2 := [(a, .inr (7, [.ref q6, .ref q13, .ref q20, .ref q27, .ref q34, .ref q42, .int (0 : Int32), .int (0 : Int32), .int (13 : Int32)])), (q6, .inl (G.2.2, 5, .inl (fun _ => 0))), (q13, .inl (G.2.1, 5, .inl (fun _ => 0))), (q20, .inl (G.2.1, 5, .inl (fun _ => 0))), (q27, .inl (G.2.1, 5, .inl (fun _ => 0))), (q34, .inl (G.2.1, 5, .inl (fun _ => 0))), (q42, .inl (G.2.1, 12, .inl (fun _ => 0)))]) iX7_init_X7 0 rfl rfl 8 (by decide) kX7_init_31 rfl tyX7 tyX7_ok nmX7 rfl (ty := tyX7 8) (by decide +kernel) rfl rfl (Nat.le_of_ble_eq_true rfl) rfl dX7_init_50 ?_
  exact s_vretN X (pc := 53) dX7_init_53 (fun k => ([q6, q13, q20, q27, q34, q42, 0, 0, 0] : List Nat).getD k 0) rfl

theorem kX8_init_oi : Cond.methodLink RX8 3 objectInit ∈ wsX8_init := List.mem_of_getElem? (i := 1) rfl
theorem kX8_init_oj : Cond.instanceMethod objectInit ∈ wsX8_init := List.mem_of_getElem? (i := 2) rfl
theorem kX8_init_ok : Cond.code objectInit ⟨#[0xb1]⟩ 1 none ∈ wsX8_init := List.mem_of_getElem? (i := 3) rfl
theorem kX8_init_ai : Cond.arrayClass .int ∈ wsX8_init := List.mem_of_getElem? (i := 4) rfl
theorem kX8_init_9 : Cond.fieldLink RX8 9 "BathingCourt$Reader" (TX8 0).2.1 (TX8 0).2.2.1 ∈ wsX8_init := List.mem_of_getElem? (i := 5) rfl
theorem iX8_init_X8 : ∀ z ∈ wsX80, z ∈ wsX8_init := fun z h => List.mem_cons_of_mem _ (List.mem_append_right _ h)
theorem kX8_init_15 : Cond.fieldLink RX8 15 "BathingCourt$Reader" (TX8 4).2.1 (TX8 4).2.2.1 ∈ wsX8_init := List.mem_of_getElem? (i := 6) rfl
set_option maxRecDepth 100000 in
set_option maxHeartbeats 4000000 in
theorem c_X8_init (l : Launch) (G : GT) (a : Nat) : Cn l G yX8_init wsX8_init 0 1 240 [] [.ref a] [(a, .inr (8, [.null, .int (0 : Int32), .int (0 : Int32), .int (0 : Int32), .int (0 : Int32)]))] (fun ad : Nat → Nat => wX8 G (cA a ad) (fun _ => 0) (0 : Int32) (0 : Int32) (0 : Int32) (-1 : Int32)) := by
  refine cn_start (by decide) rfl rfl rfl (Nat.le_of_ble_eq_true rfl) ?_
  intro p e s m args below meth c A X hmn hnw
  refine s_perm (lv2 := [(0, .ref a)]) [0] rfl ?_
  refine s_aload_n X (pc := 0) (x := a) 0 dX8_init_0 rfl ?_
  refine s_oinit X (pc := 1) (st := []) (a := a) kX8_init_oi kX8_init_oj kX8_init_ok dX8_init_1 (Nat.le_of_ble_eq_true rfl) (Nat.le_of_ble_eq_true rfl) ?_
  refine s_aload_n X (pc := 4) (x := a) 0 dX8_init_4 rfl ?_
  refine s_sipush X (pc := 5) (v := 240) dX8_init_5 (by decide) ?_
  refine s_newi2 X (pc := 8) (cells := 0) (slots := 0) (N := 240) (fun q8 => [(a, .inr (8, [.null, .int (0 : Int32), .int (0 : Int32), .int (0 : Int32), .int (0 : Int32)])), (q8, .inl (G.2.1, 240, .inl (fun _ => 0)))]) (fun _ => rfl) kX8_init_ai (by decide) rfl (Nat.le_of_ble_eq_true rfl) (Nat.le_of_ble_eq_true rfl) (Nat.le_of_ble_eq_true rfl) dX8_init_8 (fun q8 => ?_)
  refine s_putF X (pc := 10) (v := .ref q8) (w2 := [(a, .inr (8, [.ref q8, .int (0 : Int32), .int (0 : Int32), .int (0 : Int32), .int (0 : Int32)])), (q8, .inl (G.2.1, 240, .inl (fun _ => 0)))]) iX8_init_X8 0 rfl rfl 0 (by decide) kX8_init_9 rfl hmn tyX8 tyX8_ok nmX8 rfl rfl (ty := tyX8 0) (by decide +kernel) rfl rfl (Nat.le_of_ble_eq_true rfl) rfl dX8_init_10 ?_
  refine s_aload_n X (pc := 13) (x := a) 0 dX8_init_13 rfl ?_
  refine s_iconst X (pc := 14) (v := -1) dX8_init_14 (by decide) ?_
  refine s_put X (pc := 15) (v := .int (-1 : Int32)) (w2 := [(a, .inr (8, [.ref q8, .int (0 : Int32), .int (0 : Int32), .int (0 : Int32), .int (-1 : Int32)])), (q8, .inl (G.2.1, 240, .inl (fun _ => 0)))]) iX8_init_X8 0 rfl rfl 4 (by decide) kX8_init_15 rfl tyX8 tyX8_ok nmX8 rfl (ty := tyX8 4) (by decide +kernel) rfl rfl (Nat.le_of_ble_eq_true rfl) rfl dX8_init_15 ?_
  exact s_vretN X (pc := 18) dX8_init_18 (fun k => ([q8, 0, 0, 0, 0] : List Nat).getD k 0) rfl
