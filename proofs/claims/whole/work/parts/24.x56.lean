theorem iX6_push_X6 : ∀ z ∈ wsX60, z ∈ wsX6_push := fun z h => List.mem_cons_of_mem _ (List.mem_append_left _ (List.mem_append_right _ h))
theorem kX6_push_17 : Cond.fieldLink RX6 17 "BathingCourt$Past" (TX6 1).2.1 (TX6 1).2.2.1 ∈ wsX6_push := List.mem_of_getElem? (i := 1) rfl
theorem kX6_push_11 : Cond.fieldLink RX6 11 "BathingCourt$Past" (TX6 0).2.1 (TX6 0).2.2.1 ∈ wsX6_push := List.mem_of_getElem? (i := 2) rfl
theorem kX6_push_25 : Cond.fieldLink RX6 25 "BathingCourt$Past" (TX6 2).2.1 (TX6 2).2.2.1 ∈ wsX6_push := List.mem_of_getElem? (i := 3) rfl
theorem kX6_push_m28 : Cond.methodLink RX6 28 Lib.Math.min.name ∈ wsX6_push := List.mem_of_getElem? (i := 4) rfl
theorem kX6_push_stmin : Cond.static Lib.Math.min.name ∈ wsX6_push := List.mem_of_getElem? (i := 5) rfl
theorem kX6_push_inMath : Cond.initialized "java/lang/Math" ∈ wsX6_push := List.mem_of_getElem? (i := 6) rfl
theorem kX6_push_comin : Cond.code Lib.Math.min.name Lib.Math.min.code 2 (some .int) ∈ wsX6_push := List.mem_of_getElem? (i := 7) rfl
def sX6_push_0 (a0 : Nat → Int32) (a1 : Int32) (b0 b1 b2 b3 b4 : Nat → Int32) (b5 : Int32) : Nat → Int32 := sX2_saveTo_free_rows b0 b1 b2 b3 b4 b5 a0 (((a1 + (1 : Int32)) - (a1 + (1 : Int32)) / (20 : Int32) * (20 : Int32)) * (23 : Int32))
def sX6_push_1 (a1 : Int32) : Int32 := (a1 + (1 : Int32)) - (a1 + (1 : Int32)) / (20 : Int32) * (20 : Int32)
def sX6_push_2 (a2 : Int32) : Int32 := if (20 : Int32) < (a2 + (1 : Int32)) then (20 : Int32) else (a2 + (1 : Int32))
set_option maxRecDepth 100000 in
set_option maxHeartbeats 4000000 in
theorem c_X6_push (l : Launch) (G : GT) (ad : Nat → Nat) (bd : Nat → Nat) (a0 : Nat → Int32) (a1 a2 : Int32) (b0 b1 b2 b3 b4 : Nat → Int32) (b5 : Int32) (h0 : 0 ≤ a1) (h1 : a1 < 20) : Cv l G yX6_push wsX6_push (rmL 1) [.ref (ad 0), .ref (bd 0)] (wX6 G ad a0 a1 a2 ++ wX2 G bd b0 b1 b2 b3 b4 b5) (wX6 G ad (sX6_push_0 a0 a1 b0 b1 b2 b3 b4 b5) (sX6_push_1 a1) (sX6_push_2 a2) ++ wX2 G bd b0 b1 b2 b3 b4 b5) := by
  refine cv_start (by decide) rfl rfl (Nat.le_of_ble_eq_true rfl) ?_
  intro p e s m args below meth c A X
  have hq : vp_in ((a1 + 1) - (a1 + 1) / 20 * 20) 20 := vrem (b := 20) rfl (by decide) (by decide) (by grind)
  refine s_perm (lv2 := [(0, .ref (ad 0)), (1, .ref (bd 0))]) [0, 1] rfl ?_
  refine s_aload_n X (pc := 0) (x := (ad 0)) 0 dX6_push_0 rfl ?_
  refine s_aload_n X (pc := 1) (x := (ad 0)) 0 dX6_push_1 rfl ?_
  refine s_get X (pc := 2) (v := .int a1) iX6_push_X6 0 rfl rfl 1 (by decide) kX6_push_17 rfl rfl dX6_push_2 ?_
  refine s_iconst X (pc := 5) (v := 1) dX6_push_5 (by decide) ?_
  refine s_iadd X (pc := 6) dX6_push_6 ?_
  refine s_bipush X (pc := 7) (v := 20) dX6_push_7 (by decide) ?_
  refine s_irem X (pc := 9) dX6_push_9 (by decide) ?_
  refine s_put X (pc := 10) (v := .int ((a1 + (1 : Int32)) - (a1 + (1 : Int32)) / (20 : Int32) * (20 : Int32))) (w2 := wX6 G ad a0 ((a1 + (1 : Int32)) - (a1 + (1 : Int32)) / (20 : Int32) * (20 : Int32)) a2 ++ wX2 G bd b0 b1 b2 b3 b4 b5) iX6_push_X6 0 rfl rfl 1 (by decide) kX6_push_17 rfl tyX6 tyX6_ok nmX6 rfl (ty := .int) (by decide +kernel) rfl rfl (Nat.le_of_ble_eq_true rfl) rfl dX6_push_10 ?_
  refine s_aload_n X (pc := 13) (x := (bd 0)) 1 dX6_push_13 rfl ?_
  refine s_aload_n X (pc := 14) (x := (ad 0)) 0 dX6_push_14 rfl ?_
  refine s_get X (pc := 15) (v := .ref (ad 1)) iX6_push_X6 0 rfl rfl 0 (by decide) kX6_push_11 rfl rfl dX6_push_15 ?_
  refine s_aload_n X (pc := 18) (x := (ad 0)) 0 dX6_push_18 rfl ?_
  refine s_get X (pc := 19) (v := .int ((a1 + (1 : Int32)) - (a1 + (1 : Int32)) / (20 : Int32) * (20 : Int32))) iX6_push_X6 0 rfl rfl 1 (by decide) kX6_push_17 rfl rfl dX6_push_19 ?_
  refine s_bipush X (pc := 22) (v := 23) dX6_push_22 (by decide) ?_
  refine s_imul X (pc := 24) dX6_push_24 ?_
  refine s_callVv X (pc := 25) (w := wX6 G ad a0 ((a1 + (1 : Int32)) - (a1 + (1 : Int32)) / (20 : Int32) * (20 : Int32)) a2 ++ wX2 G bd b0 b1 b2 b3 b4 b5) (n := 2) (st := []) (As := [.ref (ad 1), .int (((a1 + (1 : Int32)) - (a1 + (1 : Int32)) / (20 : Int32) * (20 : Int32)) * (23 : Int32))]) (w2 := wX6 G ad (sX2_saveTo_free_rows b0 b1 b2 b3 b4 b5 a0 (((a1 + (1 : Int32)) - (a1 + (1 : Int32)) / (20 : Int32) * (20 : Int32)) * (23 : Int32))) ((a1 + (1 : Int32)) - (a1 + (1 : Int32)) / (20 : Int32) * (20 : Int32)) a2 ++ wX2 G bd b0 b1 b2 b3 b4 b5) 0 (c_X2_saveTo l G bd (ad 1) b0 b1 b2 b3 b4 b5 460 a0 (((a1 + (1 : Int32)) - (a1 + (1 : Int32)) / (20 : Int32) * (20 : Int32)) * (23 : Int32)) _ (m23 hq (by decide)).1 (m23 hq (by decide)).2 (by decide)) gX6_push_X2_saveTo rfl (by decide +kernel) ⟨Nat.le_of_ble_eq_true rfl, Nat.le_of_ble_eq_true rfl⟩ 0 rfl rfl [2, 3, 4, 5, 6, 7, 1] rfl rfl rfl rfl [ad 0, ad 1, bd 0, bd 1, bd 2, bd 3, bd 4, bd 5] rfl rfl rfl rfl (Nat.le_of_ble_eq_true rfl) (Nat.zero_le _) (Nat.zero_le _) dX6_push_25 ?_
  refine s_aload_n X (pc := 28) (x := (ad 0)) 0 dX6_push_28 rfl ?_
  refine s_aload_n X (pc := 29) (x := (ad 0)) 0 dX6_push_29 rfl ?_
  refine s_get X (pc := 30) (v := .int a2) iX6_push_X6 0 rfl rfl 2 (by decide) kX6_push_25 rfl rfl dX6_push_30 ?_
  refine s_iconst X (pc := 33) (v := 1) dX6_push_33 (by decide) ?_
  refine s_iadd X (pc := 34) dX6_push_34 ?_
  refine s_bipush X (pc := 35) (v := 20) dX6_push_35 (by decide) ?_
  refine s_min X (pc := 37) kX6_push_m28 kX6_push_stmin kX6_push_inMath kX6_push_comin (Nat.le_of_ble_eq_true rfl) (Nat.le_of_ble_eq_true rfl) (Nat.zero_le _) (Nat.zero_le _) dX6_push_37 ?_
  refine s_put X (pc := 40) (v := .int (if (20 : Int32) < (a2 + (1 : Int32)) then (20 : Int32) else (a2 + (1 : Int32)))) (w2 := wX6 G ad (sX2_saveTo_free_rows b0 b1 b2 b3 b4 b5 a0 (((a1 + (1 : Int32)) - (a1 + (1 : Int32)) / (20 : Int32) * (20 : Int32)) * (23 : Int32))) ((a1 + (1 : Int32)) - (a1 + (1 : Int32)) / (20 : Int32) * (20 : Int32)) (if (20 : Int32) < (a2 + (1 : Int32)) then (20 : Int32) else (a2 + (1 : Int32))) ++ wX2 G bd b0 b1 b2 b3 b4 b5) iX6_push_X6 0 rfl rfl 2 (by decide) kX6_push_25 rfl tyX6 tyX6_ok nmX6 rfl (ty := .int) (by decide +kernel) rfl rfl (Nat.le_of_ble_eq_true rfl) rfl dX6_push_40 ?_
  exact s_vret X (pc := 43) dX6_push_43 (by rw [show sX6_push_0 a0 a1 b0 b1 b2 b3 b4 b5 = sX2_saveTo_free_rows b0 b1 b2 b3 b4 b5 a0 (((a1 + (1 : Int32)) - (a1 + (1 : Int32)) / (20 : Int32) * (20 : Int32)) * (23 : Int32)) from rfl, show sX6_push_1 a1 = (a1 + (1 : Int32)) - (a1 + (1 : Int32)) / (20 : Int32) * (20 : Int32) from rfl, show sX6_push_2 a2 = if (20 : Int32) < (a2 + (1 : Int32)) then (20 : Int32) else (a2 + (1 : Int32)) from rfl])

theorem iX6_pop_X6 : ∀ z ∈ wsX60, z ∈ wsX6_pop := fun z h => List.mem_cons_of_mem _ (List.mem_append_left _ (List.mem_append_right _ h))
theorem kX6_pop_25 : Cond.fieldLink RX6 25 "BathingCourt$Past" (TX6 2).2.1 (TX6 2).2.2.1 ∈ wsX6_pop := List.mem_of_getElem? (i := 1) rfl
theorem kX6_pop_11 : Cond.fieldLink RX6 11 "BathingCourt$Past" (TX6 0).2.1 (TX6 0).2.2.1 ∈ wsX6_pop := List.mem_of_getElem? (i := 2) rfl
theorem kX6_pop_17 : Cond.fieldLink RX6 17 "BathingCourt$Past" (TX6 1).2.1 (TX6 1).2.2.1 ∈ wsX6_pop := List.mem_of_getElem? (i := 3) rfl
def sX6_pop_1 (a1 a2 : Int32) : Int32 := if a2 ≤ 0 then a1 else (((a1 + (20 : Int32)) - (1 : Int32)) - ((a1 + (20 : Int32)) - (1 : Int32)) / (20 : Int32) * (20 : Int32))
def sX6_pop_2 (a2 : Int32) : Int32 := if a2 ≤ 0 then a2 else (a2 - (1 : Int32))
def sX6_pop_arg0_0 (a0 : Nat → Int32) (a1 a2 : Int32) (b0 : Nat → Int32) : Nat → Int32 := if a2 ≤ 0 then b0 else (sX2_loadFrom_0 b0 a0 (a1 * (23 : Int32)))
def sX6_pop_arg0_1 (a0 : Nat → Int32) (a1 a2 : Int32) (b1 : Nat → Int32) : Nat → Int32 := if a2 ≤ 0 then b1 else (sX2_loadFrom_1 b1 a0 (a1 * (23 : Int32)))
def sX6_pop_arg0_2 (a0 : Nat → Int32) (a1 a2 : Int32) (b2 : Nat → Int32) : Nat → Int32 := if a2 ≤ 0 then b2 else (sX2_loadFrom_2 b2 a0 (a1 * (23 : Int32)))
def sX6_pop_arg0_3 (a0 : Nat → Int32) (a1 a2 : Int32) (b3 : Nat → Int32) : Nat → Int32 := if a2 ≤ 0 then b3 else (sX2_loadFrom_3 b3 a0 (a1 * (23 : Int32)))
def sX6_pop_arg0_4 (a0 : Nat → Int32) (a1 a2 : Int32) (b4 : Nat → Int32) : Nat → Int32 := if a2 ≤ 0 then b4 else (sX2_loadFrom_4 b4 a0 (a1 * (23 : Int32)))
def sX6_pop_arg0_5 (a0 : Nat → Int32) (a1 a2 b5 : Int32) : Int32 := if a2 ≤ 0 then b5 else (sX2_loadFrom_5 a0 (a1 * (23 : Int32)))
set_option maxRecDepth 100000 in
set_option maxHeartbeats 4000000 in
theorem c_X6_pop (l : Launch) (G : GT) (ad : Nat → Nat) (bd : Nat → Nat) (a0 : Nat → Int32) (a1 a2 : Int32) (b0 b1 b2 b3 b4 : Nat → Int32) (b5 : Int32) (h0 : 0 ≤ a1) (h1 : a1 < 20) : Cv l G yX6_pop wsX6_pop (rmL 1) [.ref (ad 0), .ref (bd 0)] (wX6 G ad a0 a1 a2 ++ wX2 G bd b0 b1 b2 b3 b4 b5) (wX6 G ad a0 (sX6_pop_1 a1 a2) (sX6_pop_2 a2) ++ wX2 G bd (sX6_pop_arg0_0 a0 a1 a2 b0) (sX6_pop_arg0_1 a0 a1 a2 b1) (sX6_pop_arg0_2 a0 a1 a2 b2) (sX6_pop_arg0_3 a0 a1 a2 b3) (sX6_pop_arg0_4 a0 a1 a2 b4) (sX6_pop_arg0_5 a0 a1 a2 b5)) := by
  refine cv_start (by decide) rfl rfl (Nat.le_of_ble_eq_true rfl) ?_
  intro p e s m args below meth c A X
  have hq : vp_in a1 20 := vin (b := 20) rfl h0 h1
  refine s_perm (lv2 := [(0, .ref (ad 0)), (1, .ref (bd 0))]) [0, 1] rfl ?_
  refine s_aload_n X (pc := 0) (x := (ad 0)) 0 dX6_pop_0 rfl ?_
  refine s_get X (pc := 1) (v := .int a2) iX6_pop_X6 0 rfl rfl 2 (by decide) kX6_pop_25 rfl rfl dX6_pop_1 ?_
  refine s_if_le X (pc := 4) (tgt := 48) dX6_pop_4 (by decide) (fun c4 => ?_) (fun c4 => ?_)
  ·
    exact s_vret X (pc := 48) dX6_pop_48 (by rw [show sX6_pop_1 a1 a2 = a1 from (by unfold sX6_pop_1; exact (if_pos c4)), show sX6_pop_2 a2 = a2 from (by unfold sX6_pop_2; exact (if_pos c4)), show sX6_pop_arg0_0 a0 a1 a2 b0 = b0 from (by unfold sX6_pop_arg0_0; exact (if_pos c4)), show sX6_pop_arg0_1 a0 a1 a2 b1 = b1 from (by unfold sX6_pop_arg0_1; exact (if_pos c4)), show sX6_pop_arg0_2 a0 a1 a2 b2 = b2 from (by unfold sX6_pop_arg0_2; exact (if_pos c4)), show sX6_pop_arg0_3 a0 a1 a2 b3 = b3 from (by unfold sX6_pop_arg0_3; exact (if_pos c4)), show sX6_pop_arg0_4 a0 a1 a2 b4 = b4 from (by unfold sX6_pop_arg0_4; exact (if_pos c4)), show sX6_pop_arg0_5 a0 a1 a2 b5 = b5 from (by unfold sX6_pop_arg0_5; exact (if_pos c4))])
  ·
    refine s_aload_n X (pc := 7) (x := (bd 0)) 1 dX6_pop_7 rfl ?_
    refine s_aload_n X (pc := 8) (x := (ad 0)) 0 dX6_pop_8 rfl ?_
    refine s_get X (pc := 9) (v := .ref (ad 1)) iX6_pop_X6 0 rfl rfl 0 (by decide) kX6_pop_11 rfl rfl dX6_pop_9 ?_
    refine s_aload_n X (pc := 12) (x := (ad 0)) 0 dX6_pop_12 rfl ?_
    refine s_get X (pc := 13) (v := .int a1) iX6_pop_X6 0 rfl rfl 1 (by decide) kX6_pop_17 rfl rfl dX6_pop_13 ?_
    refine s_bipush X (pc := 16) (v := 23) dX6_pop_16 (by decide) ?_
    refine s_imul X (pc := 18) dX6_pop_18 ?_
    refine s_callVv X (pc := 19) (w := wX6 G ad a0 a1 a2 ++ wX2 G bd b0 b1 b2 b3 b4 b5) (n := 2) (st := []) (As := [.ref (ad 1), .int (a1 * (23 : Int32))]) (w2 := wX6 G ad a0 a1 a2 ++ wX2 G bd (sX2_loadFrom_0 b0 a0 (a1 * (23 : Int32))) (sX2_loadFrom_1 b1 a0 (a1 * (23 : Int32))) (sX2_loadFrom_2 b2 a0 (a1 * (23 : Int32))) (sX2_loadFrom_3 b3 a0 (a1 * (23 : Int32))) (sX2_loadFrom_4 b4 a0 (a1 * (23 : Int32))) (sX2_loadFrom_5 a0 (a1 * (23 : Int32)))) 0 (c_X2_loadFrom l G bd (ad 1) b0 b1 b2 b3 b4 b5 460 a0 (a1 * (23 : Int32)) _ (m23 hq (by decide)).1 (m23 hq (by decide)).2 (by decide)) gX6_pop_X2_loadFrom rfl (by decide +kernel) ⟨Nat.le_of_ble_eq_true rfl, Nat.le_of_ble_eq_true rfl⟩ 0 rfl rfl [2, 3, 4, 5, 6, 7, 1] rfl rfl rfl rfl [ad 0, ad 1, bd 0, bd 1, bd 2, bd 3, bd 4, bd 5] rfl rfl rfl rfl (Nat.le_of_ble_eq_true rfl) (Nat.zero_le _) (Nat.zero_le _) dX6_pop_19 ?_
    refine s_aload_n X (pc := 22) (x := (ad 0)) 0 dX6_pop_22 rfl ?_
    refine s_aload_n X (pc := 23) (x := (ad 0)) 0 dX6_pop_23 rfl ?_
    refine s_get X (pc := 24) (v := .int a1) iX6_pop_X6 0 rfl rfl 1 (by decide) kX6_pop_17 rfl rfl dX6_pop_24 ?_
    refine s_bipush X (pc := 27) (v := 20) dX6_pop_27 (by decide) ?_
    refine s_iadd X (pc := 29) dX6_pop_29 ?_
    refine s_iconst X (pc := 30) (v := 1) dX6_pop_30 (by decide) ?_
    refine s_isub X (pc := 31) dX6_pop_31 ?_
    refine s_bipush X (pc := 32) (v := 20) dX6_pop_32 (by decide) ?_
    refine s_irem X (pc := 34) dX6_pop_34 (by decide) ?_
    refine s_put X (pc := 35) (v := .int (((a1 + (20 : Int32)) - (1 : Int32)) - ((a1 + (20 : Int32)) - (1 : Int32)) / (20 : Int32) * (20 : Int32))) (w2 := wX6 G ad a0 (((a1 + (20 : Int32)) - (1 : Int32)) - ((a1 + (20 : Int32)) - (1 : Int32)) / (20 : Int32) * (20 : Int32)) a2 ++ wX2 G bd (sX2_loadFrom_0 b0 a0 (a1 * (23 : Int32))) (sX2_loadFrom_1 b1 a0 (a1 * (23 : Int32))) (sX2_loadFrom_2 b2 a0 (a1 * (23 : Int32))) (sX2_loadFrom_3 b3 a0 (a1 * (23 : Int32))) (sX2_loadFrom_4 b4 a0 (a1 * (23 : Int32))) (sX2_loadFrom_5 a0 (a1 * (23 : Int32)))) iX6_pop_X6 0 rfl rfl 1 (by decide) kX6_pop_17 rfl tyX6 tyX6_ok nmX6 rfl (ty := .int) (by decide +kernel) rfl rfl (Nat.le_of_ble_eq_true rfl) rfl dX6_pop_35 ?_
    refine s_aload_n X (pc := 38) (x := (ad 0)) 0 dX6_pop_38 rfl ?_
    refine s_dup X (pc := 39) dX6_pop_39 rfl ?_
    refine s_get X (pc := 40) (v := .int a2) iX6_pop_X6 0 rfl rfl 2 (by decide) kX6_pop_25 rfl rfl dX6_pop_40 ?_
    refine s_iconst X (pc := 43) (v := 1) dX6_pop_43 (by decide) ?_
    refine s_isub X (pc := 44) dX6_pop_44 ?_
    refine s_put X (pc := 45) (v := .int (a2 - (1 : Int32))) (w2 := wX6 G ad a0 (((a1 + (20 : Int32)) - (1 : Int32)) - ((a1 + (20 : Int32)) - (1 : Int32)) / (20 : Int32) * (20 : Int32)) (a2 - (1 : Int32)) ++ wX2 G bd (sX2_loadFrom_0 b0 a0 (a1 * (23 : Int32))) (sX2_loadFrom_1 b1 a0 (a1 * (23 : Int32))) (sX2_loadFrom_2 b2 a0 (a1 * (23 : Int32))) (sX2_loadFrom_3 b3 a0 (a1 * (23 : Int32))) (sX2_loadFrom_4 b4 a0 (a1 * (23 : Int32))) (sX2_loadFrom_5 a0 (a1 * (23 : Int32)))) iX6_pop_X6 0 rfl rfl 2 (by decide) kX6_pop_25 rfl tyX6 tyX6_ok nmX6 rfl (ty := .int) (by decide +kernel) rfl rfl (Nat.le_of_ble_eq_true rfl) rfl dX6_pop_45 ?_
    exact s_vret X (pc := 48) dX6_pop_48 (by rw [show sX6_pop_1 a1 a2 = ((a1 + (20 : Int32)) - (1 : Int32)) - ((a1 + (20 : Int32)) - (1 : Int32)) / (20 : Int32) * (20 : Int32) from (by unfold sX6_pop_1; exact (if_neg c4)), show sX6_pop_2 a2 = a2 - (1 : Int32) from (by unfold sX6_pop_2; exact (if_neg c4)), show sX6_pop_arg0_0 a0 a1 a2 b0 = sX2_loadFrom_0 b0 a0 (a1 * (23 : Int32)) from (by unfold sX6_pop_arg0_0; exact (if_neg c4)), show sX6_pop_arg0_1 a0 a1 a2 b1 = sX2_loadFrom_1 b1 a0 (a1 * (23 : Int32)) from (by unfold sX6_pop_arg0_1; exact (if_neg c4)), show sX6_pop_arg0_2 a0 a1 a2 b2 = sX2_loadFrom_2 b2 a0 (a1 * (23 : Int32)) from (by unfold sX6_pop_arg0_2; exact (if_neg c4)), show sX6_pop_arg0_3 a0 a1 a2 b3 = sX2_loadFrom_3 b3 a0 (a1 * (23 : Int32)) from (by unfold sX6_pop_arg0_3; exact (if_neg c4)), show sX6_pop_arg0_4 a0 a1 a2 b4 = sX2_loadFrom_4 b4 a0 (a1 * (23 : Int32)) from (by unfold sX6_pop_arg0_4; exact (if_neg c4)), show sX6_pop_arg0_5 a0 a1 a2 b5 = sX2_loadFrom_5 a0 (a1 * (23 : Int32)) from (by unfold sX6_pop_arg0_5; exact (if_neg c4))])

theorem iX6_forget_X6 : ∀ z ∈ wsX60, z ∈ wsX6_forget := fun z h => List.mem_cons_of_mem _ (List.mem_append_right _ h)
theorem kX6_forget_25 : Cond.fieldLink RX6 25 "BathingCourt$Past" (TX6 2).2.1 (TX6 2).2.2.1 ∈ wsX6_forget := List.mem_of_getElem? (i := 1) rfl
def sX6_forget_2 : Int32 := (0 : Int32)
set_option maxRecDepth 100000 in
set_option maxHeartbeats 4000000 in
theorem c_X6_forget (l : Launch) (G : GT) (ad : Nat → Nat) (a0 : Nat → Int32) (a1 a2 : Int32) : Cv l G yX6_forget wsX6_forget (rmL 0) [.ref (ad 0)] (wX6 G ad a0 a1 a2) (wX6 G ad a0 a1 sX6_forget_2) := by
  refine cv_start (by decide) rfl rfl (Nat.le_of_ble_eq_true rfl) ?_
  intro p e s m args below meth c A X
  refine s_perm (lv2 := [(0, .ref (ad 0))]) [0] rfl ?_
  refine s_aload_n X (pc := 0) (x := (ad 0)) 0 dX6_forget_0 rfl ?_
  refine s_iconst X (pc := 1) (v := 0) dX6_forget_1 (by decide) ?_
  refine s_put X (pc := 2) (v := .int (0 : Int32)) (w2 := wX6 G ad a0 a1 (0 : Int32)) iX6_forget_X6 0 rfl rfl 2 (by decide) kX6_forget_25 rfl tyX6 tyX6_ok nmX6 rfl (ty := .int) (by decide +kernel) rfl rfl (Nat.le_of_ble_eq_true rfl) rfl dX6_forget_2 ?_
  exact s_vret X (pc := 5) dX6_forget_5 (by rw [show sX6_forget_2 = (0 : Int32) from rfl])

theorem iX5_take_X5 : ∀ z ∈ wsX50, z ∈ wsX5_take := fun z h => List.mem_cons_of_mem _ (List.mem_append_left _ (List.mem_append_right _ h))
theorem kX5_take_11 : Cond.fieldLink RX5 11 "BathingCourt$Images" (TX5 0).2.1 (TX5 0).2.2.1 ∈ wsX5_take := List.mem_of_getElem? (i := 1) rfl
theorem kX5_take_17 : Cond.fieldLink RX5 17 "BathingCourt$Images" (TX5 1).2.1 (TX5 1).2.2.1 ∈ wsX5_take := List.mem_of_getElem? (i := 2) rfl
theorem kX5_take_20 : Cond.fieldLink RX5 20 "BathingCourt$Images" (TX5 2).2.1 (TX5 2).2.2.1 ∈ wsX5_take := List.mem_of_getElem? (i := 3) rfl
def sX5_take_0 (a0 b0 b1 b2 b3 b4 : Nat → Int32) (b5 p0 : Int32) : Nat → Int32 := sX2_saveTo_free_rows b0 b1 b2 b3 b4 b5 a0 (p0 * (23 : Int32))
def sX5_take_1 (a1 : Nat → Int32) (p0 p1 : Int32) : Nat → Int32 := upd a1 p0.toNatClampNeg p1
def sX5_take_2 (a2 : Nat → Int32) (p0 : Int32) : Nat → Int32 := upd a2 p0.toNatClampNeg (1 : Int32)
set_option maxRecDepth 100000 in
set_option maxHeartbeats 4000000 in
theorem c_X5_take (l : Launch) (G : GT) (ad : Nat → Nat) (bd : Nat → Nat) (a0 a1 a2 b0 b1 b2 b3 b4 : Nat → Int32) (b5 p0 p1 : Int32) (hq : vp_in p0 2) : Cv l G yX5_take wsX5_take (rmL 1) [.ref (ad 0), .int p0, .ref (bd 0), .int p1] (wX5 G ad a0 a1 a2 ++ wX2 G bd b0 b1 b2 b3 b4 b5) (wX5 G ad (sX5_take_0 a0 b0 b1 b2 b3 b4 b5 p0) (sX5_take_1 a1 p0 p1) (sX5_take_2 a2 p0) ++ wX2 G bd b0 b1 b2 b3 b4 b5) := by
  refine cv_start (by decide) rfl rfl (Nat.le_of_ble_eq_true rfl) ?_
  intro p e s m args below meth c A X
  refine s_perm (lv2 := [(0, .ref (ad 0)), (1, .int p0), (2, .ref (bd 0)), (3, .int p1)]) [0, 1, 2, 3] rfl ?_
  refine s_aload_n X (pc := 0) (x := (bd 0)) 2 dX5_take_0 rfl ?_
  refine s_aload_n X (pc := 1) (x := (ad 0)) 0 dX5_take_1 rfl ?_
  refine s_get X (pc := 2) (v := .ref (ad 1)) iX5_take_X5 0 rfl rfl 0 (by decide) kX5_take_11 rfl rfl dX5_take_2 ?_
  refine s_iload_n X (pc := 5) (x := p0) 1 dX5_take_5 rfl ?_
  refine s_bipush X (pc := 6) (v := 23) dX5_take_6 (by decide) ?_
  refine s_imul X (pc := 8) dX5_take_8 ?_
  refine s_callVv X (pc := 9) (w := wX5 G ad a0 a1 a2 ++ wX2 G bd b0 b1 b2 b3 b4 b5) (n := 2) (st := []) (As := [.ref (ad 1), .int (p0 * (23 : Int32))]) (w2 := wX5 G ad (sX2_saveTo_free_rows b0 b1 b2 b3 b4 b5 a0 (p0 * (23 : Int32))) a1 a2 ++ wX2 G bd b0 b1 b2 b3 b4 b5) 0 (c_X2_saveTo l G bd (ad 1) b0 b1 b2 b3 b4 b5 46 a0 (p0 * (23 : Int32)) _ (m23 hq (by decide)).1 (m23 hq (by decide)).2 (by decide)) gX5_take_X2_saveTo rfl (by decide +kernel) ⟨Nat.le_of_ble_eq_true rfl, Nat.le_of_ble_eq_true rfl⟩ 0 rfl rfl [4, 5, 6, 7, 8, 9, 1] rfl rfl rfl rfl [ad 0, ad 1, ad 2, ad 3, bd 0, bd 1, bd 2, bd 3, bd 4, bd 5] rfl rfl rfl rfl (Nat.le_of_ble_eq_true rfl) (Nat.zero_le _) (Nat.zero_le _) dX5_take_9 ?_
  refine s_aload_n X (pc := 12) (x := (ad 0)) 0 dX5_take_12 rfl ?_
  refine s_get X (pc := 13) (v := .ref (ad 2)) iX5_take_X5 0 rfl rfl 1 (by decide) kX5_take_17 rfl rfl dX5_take_13 ?_
  refine s_iload_n X (pc := 16) (x := p0) 1 dX5_take_16 rfl ?_
  refine s_iload_n X (pc := 17) (x := p1) 3 dX5_take_17 rfl ?_
  refine s_iast X (pc := 18) (n := 2) (f := a1) (w2 := wX5 G ad (sX2_saveTo_free_rows b0 b1 b2 b3 b4 b5 a0 (p0 * (23 : Int32))) (upd a1 p0.toNatClampNeg p1) a2 ++ wX2 G bd b0 b1 b2 b3 b4 b5) 2 rfl (by first | with_reducible assumption | exact vin (b := 2) rfl (by grind) (by grind)) rfl dX5_take_18 ?_
  refine s_aload_n X (pc := 19) (x := (ad 0)) 0 dX5_take_19 rfl ?_
  refine s_get X (pc := 20) (v := .ref (ad 3)) iX5_take_X5 0 rfl rfl 2 (by decide) kX5_take_20 rfl rfl dX5_take_20 ?_
  refine s_iload_n X (pc := 23) (x := p0) 1 dX5_take_23 rfl ?_
  refine s_iconst X (pc := 24) (v := 1) dX5_take_24 (by decide) ?_
  refine s_zast X (pc := 25) (n := 2) (f := a2) (w2 := wX5 G ad (sX2_saveTo_free_rows b0 b1 b2 b3 b4 b5 a0 (p0 * (23 : Int32))) (upd a1 p0.toNatClampNeg p1) (upd a2 p0.toNatClampNeg (1 : Int32)) ++ wX2 G bd b0 b1 b2 b3 b4 b5) 3 rfl (by first | with_reducible assumption | exact vin (b := 2) rfl (by grind) (by grind)) (Or.inr rfl) rfl dX5_take_25 ?_
  exact s_vret X (pc := 26) dX5_take_26 (by rw [show sX5_take_0 a0 b0 b1 b2 b3 b4 b5 p0 = sX2_saveTo_free_rows b0 b1 b2 b3 b4 b5 a0 (p0 * (23 : Int32)) from rfl, show sX5_take_1 a1 p0 p1 = upd a1 p0.toNatClampNeg p1 from rfl, show sX5_take_2 a2 p0 = upd a2 p0.toNatClampNeg (1 : Int32) from rfl])

theorem iX5_show_X5 : ∀ z ∈ wsX50, z ∈ wsX5_show := fun z h => List.mem_cons_of_mem _ (List.mem_append_left _ (List.mem_append_right _ h))
theorem kX5_show_11 : Cond.fieldLink RX5 11 "BathingCourt$Images" (TX5 0).2.1 (TX5 0).2.2.1 ∈ wsX5_show := List.mem_of_getElem? (i := 1) rfl
def sX5_show_arg1_0 (a0 b0 : Nat → Int32) (p0 : Int32) : Nat → Int32 := sX2_loadFrom_0 b0 a0 (p0 * (23 : Int32))
def sX5_show_arg1_1 (a0 b1 : Nat → Int32) (p0 : Int32) : Nat → Int32 := sX2_loadFrom_1 b1 a0 (p0 * (23 : Int32))
def sX5_show_arg1_2 (a0 b2 : Nat → Int32) (p0 : Int32) : Nat → Int32 := sX2_loadFrom_2 b2 a0 (p0 * (23 : Int32))
def sX5_show_arg1_3 (a0 b3 : Nat → Int32) (p0 : Int32) : Nat → Int32 := sX2_loadFrom_3 b3 a0 (p0 * (23 : Int32))
def sX5_show_arg1_4 (a0 b4 : Nat → Int32) (p0 : Int32) : Nat → Int32 := sX2_loadFrom_4 b4 a0 (p0 * (23 : Int32))
def sX5_show_arg1_5 (a0 : Nat → Int32) (p0 : Int32) : Int32 := sX2_loadFrom_5 a0 (p0 * (23 : Int32))
set_option maxRecDepth 100000 in
set_option maxHeartbeats 4000000 in
theorem c_X5_show (l : Launch) (G : GT) (ad : Nat → Nat) (bd : Nat → Nat) (a0 a1 a2 b0 b1 b2 b3 b4 : Nat → Int32) (b5 p0 : Int32) (hq : vp_in p0 2) : Cv l G yX5_show wsX5_show (rmL 1) [.ref (ad 0), .int p0, .ref (bd 0)] (wX5 G ad a0 a1 a2 ++ wX2 G bd b0 b1 b2 b3 b4 b5) (wX5 G ad a0 a1 a2 ++ wX2 G bd (sX5_show_arg1_0 a0 b0 p0) (sX5_show_arg1_1 a0 b1 p0) (sX5_show_arg1_2 a0 b2 p0) (sX5_show_arg1_3 a0 b3 p0) (sX5_show_arg1_4 a0 b4 p0) (sX5_show_arg1_5 a0 p0)) := by
  refine cv_start (by decide) rfl rfl (Nat.le_of_ble_eq_true rfl) ?_
  intro p e s m args below meth c A X
  refine s_perm (lv2 := [(0, .ref (ad 0)), (1, .int p0), (2, .ref (bd 0))]) [0, 1, 2] rfl ?_
  refine s_aload_n X (pc := 0) (x := (bd 0)) 2 dX5_show_0 rfl ?_
  refine s_aload_n X (pc := 1) (x := (ad 0)) 0 dX5_show_1 rfl ?_
  refine s_get X (pc := 2) (v := .ref (ad 1)) iX5_show_X5 0 rfl rfl 0 (by decide) kX5_show_11 rfl rfl dX5_show_2 ?_
  refine s_iload_n X (pc := 5) (x := p0) 1 dX5_show_5 rfl ?_
  refine s_bipush X (pc := 6) (v := 23) dX5_show_6 (by decide) ?_
  refine s_imul X (pc := 8) dX5_show_8 ?_
  refine s_callVv X (pc := 9) (w := wX5 G ad a0 a1 a2 ++ wX2 G bd b0 b1 b2 b3 b4 b5) (n := 2) (st := []) (As := [.ref (ad 1), .int (p0 * (23 : Int32))]) (w2 := wX5 G ad a0 a1 a2 ++ wX2 G bd (sX2_loadFrom_0 b0 a0 (p0 * (23 : Int32))) (sX2_loadFrom_1 b1 a0 (p0 * (23 : Int32))) (sX2_loadFrom_2 b2 a0 (p0 * (23 : Int32))) (sX2_loadFrom_3 b3 a0 (p0 * (23 : Int32))) (sX2_loadFrom_4 b4 a0 (p0 * (23 : Int32))) (sX2_loadFrom_5 a0 (p0 * (23 : Int32)))) 0 (c_X2_loadFrom l G bd (ad 1) b0 b1 b2 b3 b4 b5 46 a0 (p0 * (23 : Int32)) _ (m23 hq (by decide)).1 (m23 hq (by decide)).2 (by decide)) gX5_show_X2_loadFrom rfl (by decide +kernel) ⟨Nat.le_of_ble_eq_true rfl, Nat.le_of_ble_eq_true rfl⟩ 0 rfl rfl [4, 5, 6, 7, 8, 9, 1] rfl rfl rfl rfl [ad 0, ad 1, ad 2, ad 3, bd 0, bd 1, bd 2, bd 3, bd 4, bd 5] rfl rfl rfl rfl (Nat.le_of_ble_eq_true rfl) (Nat.zero_le _) (Nat.zero_le _) dX5_show_9 ?_
  exact s_vret X (pc := 12) dX5_show_12 (by rw [show sX5_show_arg1_0 a0 b0 p0 = sX2_loadFrom_0 b0 a0 (p0 * (23 : Int32)) from rfl, show sX5_show_arg1_1 a0 b1 p0 = sX2_loadFrom_1 b1 a0 (p0 * (23 : Int32)) from rfl, show sX5_show_arg1_2 a0 b2 p0 = sX2_loadFrom_2 b2 a0 (p0 * (23 : Int32)) from rfl, show sX5_show_arg1_3 a0 b3 p0 = sX2_loadFrom_3 b3 a0 (p0 * (23 : Int32)) from rfl, show sX5_show_arg1_4 a0 b4 p0 = sX2_loadFrom_4 b4 a0 (p0 * (23 : Int32)) from rfl, show sX5_show_arg1_5 a0 p0 = sX2_loadFrom_5 a0 (p0 * (23 : Int32)) from rfl])

theorem iX5_forget_X5 : ∀ z ∈ wsX50, z ∈ wsX5_forget := fun z h => List.mem_cons_of_mem _ (List.mem_append_right _ h)
theorem kX5_forget_20 : Cond.fieldLink RX5 20 "BathingCourt$Images" (TX5 2).2.1 (TX5 2).2.2.1 ∈ wsX5_forget := List.mem_of_getElem? (i := 1) rfl
def aX5_forget_2 (a2 : Nat → Int32) : Nat → (Nat → Int32)
  | 0 => a2
  | k2 + 1 => upd (aX5_forget_2 a2 k2) (nI k2).toNatClampNeg (0 : Int32)
def sX5_forget_2 (a2 : Nat → Int32) : Nat → Int32 := (aX5_forget_2 a2 2)
set_option maxRecDepth 100000 in
set_option maxHeartbeats 4000000 in
theorem c_X5_forget (l : Launch) (G : GT) (ad : Nat → Nat) (a0 a1 a2 : Nat → Int32) : Cv l G yX5_forget wsX5_forget (rmL 0) [.ref (ad 0)] (wX5 G ad a0 a1 a2) (wX5 G ad a0 a1 (sX5_forget_2 a2)) := by
  refine cv_start (by decide) rfl rfl (Nat.le_of_ble_eq_true rfl) ?_
  intro p e s m args below meth c A X
  refine s_perm (lv2 := [(0, .ref (ad 0))]) [0] rfl ?_
  refine s_iconst X (pc := 0) (v := 0) dX5_forget_0 (by decide) ?_
  refine s_istore_n X (pc := 1) (i := 1) (lv2 := [(1, .int (0 : Int32)), (0, .ref (ad 0))]) dX5_forget_1 rfl (by decide) rfl ?_
  refine s_perm (lv2 := [(0, .ref (ad 0)), (1, .int (0 : Int32))]) [1, 0] rfl ?_
  have L2 : ∀ (n2 k2 : Nat), k2 + n2 = 2 → Sm p l e (rmL 0) s m args below meth c G A 2 0 0 (Qcv below G A args s (wX5 G ad a0 a1 (sX5_forget_2 a2))) 2 [(0, .ref (ad 0)), (1, .int (nI k2))] [] (wX5 G ad a0 a1 (aX5_forget_2 a2 k2)) := by
    intro n2
    induction n2 with
    | zero =>
      intro k2 hk2
      have hK2 : k2 = 2 := by omega
      rw [hK2]
      have tk2 : (nI 2).toInt = ((2 : Nat) : Int) := nI_toInt (by omega)
      have eN2 : ((2 : Int32)).toInt = ((2 : Nat) : Int) := rfl
      refine s_iload_n X (pc := 2) (x := nI 2) 1 dX5_forget_2 rfl ?_
      refine s_iconst X (pc := 3) (v := 2) dX5_forget_3 (by decide) ?_
      refine s_icmp_ge X (pc := 4) (tgt := 20) dX5_forget_4 (by decide) (fun c4 => ?_) (fun c4 => ?_)
      ·
        exact s_vret X (pc := 20) dX5_forget_20 (by rw [show sX5_forget_2 a2 = (aX5_forget_2 a2 2) from rfl])
      ·
        exact absurd ((t_le eN2 tk2).mpr (by omega)) c4
    | succ n2 ih2 =>
      intro k2 hk2
      have hlt2 : k2 < 2 := by omega
      have tk2 : (nI k2).toInt = ((k2 : Nat) : Int) := nI_toInt (by omega)
      have eN2 : ((2 : Int32)).toInt = ((2 : Nat) : Int) := rfl
      refine s_iload_n X (pc := 2) (x := nI k2) 1 dX5_forget_2 rfl ?_
      refine s_iconst X (pc := 3) (v := 2) dX5_forget_3 (by decide) ?_
      refine s_icmp_ge X (pc := 4) (tgt := 20) dX5_forget_4 (by decide) (fun c4 => ?_) (fun c4 => ?_)
      ·
        exact absurd ((t_le eN2 tk2).mp c4) (by omega)
      ·
        refine s_aload_n X (pc := 7) (x := (ad 0)) 0 dX5_forget_7 rfl ?_
        refine s_get X (pc := 8) (v := .ref (ad 3)) iX5_forget_X5 0 rfl rfl 2 (by decide) kX5_forget_20 rfl rfl dX5_forget_8 ?_
        refine s_iload_n X (pc := 11) (x := nI k2) 1 dX5_forget_11 rfl ?_
        refine s_iconst X (pc := 12) (v := 0) dX5_forget_12 (by decide) ?_
        refine s_zast X (pc := 13) (n := 2) (f := (aX5_forget_2 a2 k2)) (w2 := wX5 G ad a0 a1 (upd (aX5_forget_2 a2 k2) (nI k2).toNatClampNeg (0 : Int32))) 3 rfl (vp_in_nI (by omega) (by decide)) (Or.inl rfl) rfl dX5_forget_13 ?_
        refine s_iinc X (pc := 14) (v := nI (k2 + 1)) (lv2 := [(1, .int (nI (k2 + 1))), (0, .ref (ad 0))]) 1 dX5_forget_14 rfl (nI_1 _) (by decide) rfl ?_
        refine s_goto X (pc := 17) (tgt := 2) dX5_forget_17 (by decide) ?_
        refine s_perm (lv2 := [(0, .ref (ad 0)), (1, .int (nI (k2 + 1)))]) [1, 0] rfl ?_
        have hb2 : (aX5_forget_2 a2 (k2 + 1)) = upd (aX5_forget_2 a2 k2) (nI k2).toNatClampNeg (0 : Int32) := rfl
        refine s_cast (lv2 := [(0, .ref (ad 0)), (1, .int (nI (k2 + 1)))]) (w2 := wX5 G ad a0 a1 (aX5_forget_2 a2 (k2 + 1))) (by first | (rw [hb2]; done) | rfl) (by first | (rw [hb2]; done) | rfl) ?_
        exact ih2 (k2 + 1) (by omega)
  exact L2 2 0 (Nat.zero_add _)
