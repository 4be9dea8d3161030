theorem iX9_plan_X9 : ∀ z ∈ wsX90, z ∈ wsX9_plan := fun z h => List.mem_cons_of_mem _ (List.mem_append_left _ (List.mem_append_left _ (List.mem_append_left _ (List.mem_append_right _ h))))
theorem kX9_plan_40 : Cond.fieldLink RX9 40 "BathingCourt" (TX9 4).2.1 (TX9 4).2.2.1 ∈ wsX9_plan := List.mem_of_getElem? (i := 4) rfl
theorem kX9_plan_68 : Cond.fieldLink RX9 68 "BathingCourt" (TX9 8).2.1 (TX9 8).2.2.1 ∈ wsX9_plan := List.mem_of_getElem? (i := 1) rfl
theorem kX9_plan_19 : Cond.fieldLink RX9 19 "BathingCourt" (TX9 1).2.1 (TX9 1).2.2.1 ∈ wsX9_plan := List.mem_of_getElem? (i := 5) rfl
theorem kX9_plan_c79 : Jvm.Cond.constant RX9 79 (-1000000002) ∈ wsX9_plan := List.mem_of_getElem? (i := 3) rfl
theorem kX9_plan_c152 : Jvm.Cond.constant RX9 152 (-1000000001) ∈ wsX9_plan := List.mem_of_getElem? (i := 2) rfl
def rX9_plan (dy3 : Nat → Int32) (dy5 : Int32) (pl0 pl1 pl2 pl3 pl4 pl5 sh0 sh2 sh3 sh4 : Nat → Int32) (sh6 sh8 p0 p1 : Int32) : Int32 := if p1 = (-1 : Int32) then (if (rX9_isOutside p0 (1 : Int32) (4 : Int32)) = 0 then (rX7_hoursForAll (sX7_search_8 pl0 pl1 pl2 pl3 pl4 pl5 sh0 sh2 sh3 sh4 sh6 sh8 dy3 dy5 p0)) else (-1000000002 : Int32)) else (if (rX0_hasCase sh8 p1) = 0 then (-1000000001 : Int32) else (if (rX9_isOutside p0 (1 : Int32) (4 : Int32)) = 0 then (rX7_beginOf (sX7_search_4 pl0 pl1 pl2 pl3 pl4 pl5 sh0 sh2 sh3 sh4 sh6 sh8 dy3 dy5 p0) p1) else (-1000000002 : Int32)))
def sX9_plan_o4_0 (dy3 : Nat → Int32) (dy5 : Int32) (pl0 pl1 pl2 sh0 sh2 sh3 sh4 : Nat → Int32) (sh6 sh8 p0 p1 : Int32) : Nat → Int32 := if p1 = (-1 : Int32) then (if (rX9_isOutside p0 (1 : Int32) (4 : Int32)) = 0 then (sX7_search_0 pl0 pl1 pl2 sh0 sh2 sh3 sh4 sh6 sh8 dy3 dy5) else pl0) else (if (rX0_hasCase sh8 p1) = 0 then pl0 else (if (rX9_isOutside p0 (1 : Int32) (4 : Int32)) = 0 then (sX7_search_0 pl0 pl1 pl2 sh0 sh2 sh3 sh4 sh6 sh8 dy3 dy5) else pl0))
def sX9_plan_o4_1 (dy3 : Nat → Int32) (dy5 : Int32) (pl0 pl1 pl2 sh0 sh2 sh3 sh4 : Nat → Int32) (sh6 sh8 p0 p1 : Int32) : Nat → Int32 := if p1 = (-1 : Int32) then (if (rX9_isOutside p0 (1 : Int32) (4 : Int32)) = 0 then (sX7_search_1 pl0 pl1 pl2 sh0 sh2 sh3 sh4 sh6 sh8 dy3 dy5) else pl1) else (if (rX0_hasCase sh8 p1) = 0 then pl1 else (if (rX9_isOutside p0 (1 : Int32) (4 : Int32)) = 0 then (sX7_search_1 pl0 pl1 pl2 sh0 sh2 sh3 sh4 sh6 sh8 dy3 dy5) else pl1))
def sX9_plan_o4_2 (dy3 : Nat → Int32) (dy5 : Int32) (pl0 pl1 pl2 sh0 sh2 sh3 sh4 : Nat → Int32) (sh6 sh8 p0 p1 : Int32) : Nat → Int32 := if p1 = (-1 : Int32) then (if (rX9_isOutside p0 (1 : Int32) (4 : Int32)) = 0 then (sX7_search_2 pl0 pl1 pl2 sh0 sh2 sh3 sh4 sh6 sh8 dy3 dy5) else pl2) else (if (rX0_hasCase sh8 p1) = 0 then pl2 else (if (rX9_isOutside p0 (1 : Int32) (4 : Int32)) = 0 then (sX7_search_2 pl0 pl1 pl2 sh0 sh2 sh3 sh4 sh6 sh8 dy3 dy5) else pl2))
def sX9_plan_o4_3 (dy3 : Nat → Int32) (dy5 : Int32) (pl0 pl1 pl2 pl3 pl4 pl5 sh0 sh2 sh3 sh4 : Nat → Int32) (sh6 sh8 p0 p1 : Int32) : Nat → Int32 := if p1 = (-1 : Int32) then (if (rX9_isOutside p0 (1 : Int32) (4 : Int32)) = 0 then (sX7_search_3 pl0 pl1 pl2 pl3 pl4 pl5 sh0 sh2 sh3 sh4 sh6 sh8 dy3 dy5 p0) else pl3) else (if (rX0_hasCase sh8 p1) = 0 then pl3 else (if (rX9_isOutside p0 (1 : Int32) (4 : Int32)) = 0 then (sX7_search_3 pl0 pl1 pl2 pl3 pl4 pl5 sh0 sh2 sh3 sh4 sh6 sh8 dy3 dy5 p0) else pl3))
def sX9_plan_o4_4 (dy3 : Nat → Int32) (dy5 : Int32) (pl0 pl1 pl2 pl3 pl4 pl5 sh0 sh2 sh3 sh4 : Nat → Int32) (sh6 sh8 p0 p1 : Int32) : Nat → Int32 := if p1 = (-1 : Int32) then (if (rX9_isOutside p0 (1 : Int32) (4 : Int32)) = 0 then (sX7_search_4 pl0 pl1 pl2 pl3 pl4 pl5 sh0 sh2 sh3 sh4 sh6 sh8 dy3 dy5 p0) else pl4) else (if (rX0_hasCase sh8 p1) = 0 then pl4 else (if (rX9_isOutside p0 (1 : Int32) (4 : Int32)) = 0 then (sX7_search_4 pl0 pl1 pl2 pl3 pl4 pl5 sh0 sh2 sh3 sh4 sh6 sh8 dy3 dy5 p0) else pl4))
def sX9_plan_o4_5 (dy3 : Nat → Int32) (dy5 : Int32) (pl0 pl1 pl2 pl3 pl4 pl5 sh0 sh2 sh3 sh4 : Nat → Int32) (sh6 sh8 p0 p1 : Int32) : Nat → Int32 := if p1 = (-1 : Int32) then (if (rX9_isOutside p0 (1 : Int32) (4 : Int32)) = 0 then (sX7_search_5 pl0 pl1 pl2 pl3 pl4 pl5 sh0 sh2 sh3 sh4 sh6 sh8 dy3 dy5 p0) else pl5) else (if (rX0_hasCase sh8 p1) = 0 then pl5 else (if (rX9_isOutside p0 (1 : Int32) (4 : Int32)) = 0 then (sX7_search_5 pl0 pl1 pl2 pl3 pl4 pl5 sh0 sh2 sh3 sh4 sh6 sh8 dy3 dy5 p0) else pl5))
def sX9_plan_o4_6 (pl6 sh8 p0 p1 : Int32) : Int32 := if p1 = (-1 : Int32) then (if (rX9_isOutside p0 (1 : Int32) (4 : Int32)) = 0 then (sX7_search_6 p0) else pl6) else (if (rX0_hasCase sh8 p1) = 0 then pl6 else (if (rX9_isOutside p0 (1 : Int32) (4 : Int32)) = 0 then (sX7_search_6 p0) else pl6))
def sX9_plan_o4_7 (dy3 : Nat → Int32) (dy5 : Int32) (pl0 pl1 pl2 : Nat → Int32) (pl7 : Int32) (sh0 sh2 sh3 sh4 : Nat → Int32) (sh6 sh8 p0 p1 : Int32) : Int32 := if p1 = (-1 : Int32) then (if (rX9_isOutside p0 (1 : Int32) (4 : Int32)) = 0 then (sX7_search_7 pl0 pl1 pl2 sh0 sh2 sh3 sh4 sh6 sh8 dy3 dy5 p0) else pl7) else (if (rX0_hasCase sh8 p1) = 0 then pl7 else (if (rX9_isOutside p0 (1 : Int32) (4 : Int32)) = 0 then (sX7_search_7 pl0 pl1 pl2 sh0 sh2 sh3 sh4 sh6 sh8 dy3 dy5 p0) else pl7))
def sX9_plan_o4_8 (dy3 : Nat → Int32) (dy5 : Int32) (pl0 pl1 pl2 pl3 pl4 pl5 : Nat → Int32) (pl8 : Int32) (sh0 sh2 sh3 sh4 : Nat → Int32) (sh6 sh8 p0 p1 : Int32) : Int32 := if p1 = (-1 : Int32) then (if (rX9_isOutside p0 (1 : Int32) (4 : Int32)) = 0 then (sX7_search_8 pl0 pl1 pl2 pl3 pl4 pl5 sh0 sh2 sh3 sh4 sh6 sh8 dy3 dy5 p0) else pl8) else (if (rX0_hasCase sh8 p1) = 0 then pl8 else (if (rX9_isOutside p0 (1 : Int32) (4 : Int32)) = 0 then (sX7_search_8 pl0 pl1 pl2 pl3 pl4 pl5 sh0 sh2 sh3 sh4 sh6 sh8 dy3 dy5 p0) else pl8))
set_option maxRecDepth 100000 in
set_option maxHeartbeats 4000000 in
theorem c_X9_plan (l : Launch) (G : GT) (AD : Nat → Nat → Nat) (rd0 : Nat → Int32) (rd1 rd2 rd3 rd4 : Int32) (dy0 dy1 dy2 dy3 dy4 : Nat → Int32) (dy5 : Int32) (pa0 : Nat → Int32) (pa1 pa2 : Int32) (im0 im1 im2 pl0 pl1 pl2 pl3 pl4 pl5 : Nat → Int32) (pl6 pl7 pl8 : Int32) (er0 er1 : Nat → Int32) (er2 : Int32) (bk0 bk1 : Nat → Int32) (bk2 dr0 : Int32) (sh0 sh1 sh2 sh3 sh4 sh5 : Nat → Int32) (sh6 sh7 sh8 : Int32) (sp0 sp1 sp2 sp3 sp4 sp5 : Nat → Int32) (sp6 sp7 sp8 p0 p1 : Int32) (ca : 0 ≤ sh8) (cb : sh8 ≤ 5) (t12 : sh6 ≤ 12) (hL : ∀ j : Nat, j < 5 → ¬ rX0_hasCase sh8 (nI j) = 0 → 1 ≤ sh3 j ∧ sh3 j ≤ 4) : Ci l G yX9_plan wsX9_plan (rmL 9) [.ref (AD 10 0), .int p0, .int p1] (wC G AD (AD 8 0) (AD 9 0) rd0 rd1 rd2 rd3 rd4 dy0 dy1 dy2 dy3 dy4 dy5 pa0 pa1 pa2 im0 im1 im2 pl0 pl1 pl2 pl3 pl4 pl5 pl6 pl7 pl8 er0 er1 er2 bk0 bk1 bk2 dr0 sh0 sh1 sh2 sh3 sh4 sh5 sh6 sh7 sh8 sp0 sp1 sp2 sp3 sp4 sp5 sp6 sp7 sp8) (rX9_plan dy3 dy5 pl0 pl1 pl2 pl3 pl4 pl5 sh0 sh2 sh3 sh4 sh6 sh8 p0 p1) (wC G AD (AD 8 0) (AD 9 0) rd0 rd1 rd2 rd3 rd4 dy0 dy1 dy2 dy3 dy4 dy5 pa0 pa1 pa2 im0 im1 im2 (sX9_plan_o4_0 dy3 dy5 pl0 pl1 pl2 sh0 sh2 sh3 sh4 sh6 sh8 p0 p1) (sX9_plan_o4_1 dy3 dy5 pl0 pl1 pl2 sh0 sh2 sh3 sh4 sh6 sh8 p0 p1) (sX9_plan_o4_2 dy3 dy5 pl0 pl1 pl2 sh0 sh2 sh3 sh4 sh6 sh8 p0 p1) (sX9_plan_o4_3 dy3 dy5 pl0 pl1 pl2 pl3 pl4 pl5 sh0 sh2 sh3 sh4 sh6 sh8 p0 p1) (sX9_plan_o4_4 dy3 dy5 pl0 pl1 pl2 pl3 pl4 pl5 sh0 sh2 sh3 sh4 sh6 sh8 p0 p1) (sX9_plan_o4_5 dy3 dy5 pl0 pl1 pl2 pl3 pl4 pl5 sh0 sh2 sh3 sh4 sh6 sh8 p0 p1) (sX9_plan_o4_6 pl6 sh8 p0 p1) (sX9_plan_o4_7 dy3 dy5 pl0 pl1 pl2 pl7 sh0 sh2 sh3 sh4 sh6 sh8 p0 p1) (sX9_plan_o4_8 dy3 dy5 pl0 pl1 pl2 pl3 pl4 pl5 pl8 sh0 sh2 sh3 sh4 sh6 sh8 p0 p1) er0 er1 er2 bk0 bk1 bk2 dr0 sh0 sh1 sh2 sh3 sh4 sh5 sh6 sh7 sh8 sp0 sp1 sp2 sp3 sp4 sp5 sp6 sp7 sp8) := by
  refine ci_start .int (by decide) rfl rfl (Nat.le_of_ble_eq_true rfl) ?_
  intro p e s m args below meth c A X
  refine s_perm (lv2 := [(0, .ref (AD 10 0)), (1, .int p0), (2, .int p1)]) [0, 1, 2] rfl ?_
  refine s_iload_n X (pc := 0) (x := p1) 2 dX9_plan_0 rfl ?_
  refine s_iconst X (pc := 1) (v := -1) dX9_plan_1 (by decide) ?_
  refine s_icmp_eq X (pc := 2) (tgt := 19) dX9_plan_2 (by decide) (fun c2 => ?_) (fun c2 => ?_)
  ·
    refine s_iload_n X (pc := 19) (x := p0) 1 dX9_plan_19 rfl ?_
    refine s_iconst X (pc := 20) (v := 1) dX9_plan_20 (by decide) ?_
    refine s_iconst X (pc := 21) (v := 4) dX9_plan_21 (by decide) ?_
    refine s_callSiN X (pc := 22) (r := rX9_isOutside p0 (1 : Int32) (4 : Int32)) (n := 3) (st := []) (As := [.int p0, .int (1 : Int32), .int (4 : Int32)]) 0 (c_X9_isOutside l G p0 (1 : Int32) (4 : Int32)) gX9_plan_X9_isOutside rfl (by decide +kernel) ⟨Nat.le_of_ble_eq_true rfl, Nat.le_of_ble_eq_true rfl⟩ rfl rfl (Nat.le_of_ble_eq_true rfl) (Nat.zero_le _) (Nat.zero_le _) dX9_plan_22 ?_
    refine s_if_eq X (pc := 25) (tgt := 31) dX9_plan_25 (by decide) (fun c25 => ?_) (fun c25 => ?_)
    ·
      have q25 := isO.mp c25
      refine s_aload_n X (pc := 31) (x := (AD 10 0)) 0 dX9_plan_31 rfl ?_
      refine s_get X (pc := 32) (v := .ref (AD 4 0)) iX9_plan_X9 0 rfl rfl 4 (by decide) kX9_plan_40 rfl rfl dX9_plan_32 ?_
      refine s_aload_n X (pc := 35) (x := (AD 10 0)) 0 dX9_plan_35 rfl ?_
      refine s_get X (pc := 36) (v := .ref (AD 8 0)) iX9_plan_X9 0 rfl rfl 8 (by decide) kX9_plan_68 rfl rfl dX9_plan_36 ?_
      refine s_aload_n X (pc := 39) (x := (AD 10 0)) 0 dX9_plan_39 rfl ?_
      refine s_get X (pc := 40) (v := .ref (AD 1 0)) iX9_plan_X9 0 rfl rfl 1 (by decide) kX9_plan_19 rfl rfl dX9_plan_40 ?_
      refine s_iload_n X (pc := 43) (x := p0) 1 dX9_plan_43 rfl ?_
      refine s_callVv0 X (pc := 44) (w := wC G AD (AD 8 0) (AD 9 0) rd0 rd1 rd2 rd3 rd4 dy0 dy1 dy2 dy3 dy4 dy5 pa0 pa1 pa2 im0 im1 im2 pl0 pl1 pl2 pl3 pl4 pl5 pl6 pl7 pl8 er0 er1 er2 bk0 bk1 bk2 dr0 sh0 sh1 sh2 sh3 sh4 sh5 sh6 sh7 sh8 sp0 sp1 sp2 sp3 sp4 sp5 sp6 sp7 sp8) (n := 3) (st := []) (As := [.ref (AD 8 0), .ref (AD 1 0), .int p0]) (w2 := wC G AD (AD 8 0) (AD 9 0) rd0 rd1 rd2 rd3 rd4 dy0 dy1 dy2 dy3 dy4 dy5 pa0 pa1 pa2 im0 im1 im2 (sX7_search_0 pl0 pl1 pl2 sh0 sh2 sh3 sh4 sh6 sh8 dy3 dy5) (sX7_search_1 pl0 pl1 pl2 sh0 sh2 sh3 sh4 sh6 sh8 dy3 dy5) (sX7_search_2 pl0 pl1 pl2 sh0 sh2 sh3 sh4 sh6 sh8 dy3 dy5) (sX7_search_3 pl0 pl1 pl2 pl3 pl4 pl5 sh0 sh2 sh3 sh4 sh6 sh8 dy3 dy5 p0) (sX7_search_4 pl0 pl1 pl2 pl3 pl4 pl5 sh0 sh2 sh3 sh4 sh6 sh8 dy3 dy5 p0) (sX7_search_5 pl0 pl1 pl2 pl3 pl4 pl5 sh0 sh2 sh3 sh4 sh6 sh8 dy3 dy5 p0) (sX7_search_6 p0) (sX7_search_7 pl0 pl1 pl2 sh0 sh2 sh3 sh4 sh6 sh8 dy3 dy5 p0) (sX7_search_8 pl0 pl1 pl2 pl3 pl4 pl5 sh0 sh2 sh3 sh4 sh6 sh8 dy3 dy5 p0) er0 er1 er2 bk0 bk1 bk2 dr0 sh0 sh1 sh2 sh3 sh4 sh5 sh6 sh7 sh8 sp0 sp1 sp2 sp3 sp4 sp5 sp6 sp7 sp8) 8 (c_L4_8_1_X7_search l G AD (AD 8 0) (AD 9 0) rd0 rd1 rd2 rd3 rd4 dy0 dy1 dy2 dy3 dy4 dy5 pa0 pa1 pa2 im0 im1 im2 pl0 pl1 pl2 pl3 pl4 pl5 pl6 pl7 pl8 er0 er1 er2 bk0 bk1 bk2 dr0 sh0 sh1 sh2 sh3 sh4 sh5 sh6 sh7 sh8 sp0 sp1 sp2 sp3 sp4 sp5 sp6 sp7 sp8 p0 t12 cb hL (by grind)) gX9_plan_X7_search rfl (by decide +kernel) ⟨Nat.le_of_ble_eq_true rfl, Nat.le_of_ble_eq_true rfl⟩ 15 rfl rfl rfl rfl (Nat.le_of_ble_eq_true rfl) (Nat.zero_le _) (Nat.zero_le _) dX9_plan_44 ?_
      refine s_iload_n X (pc := 47) (x := p1) 2 dX9_plan_47 rfl ?_
      refine s_iconst X (pc := 48) (v := -1) dX9_plan_48 (by decide) ?_
      refine s_icmp_ne X (pc := 49) (tgt := 62) dX9_plan_49 (by decide) (fun c49 => ?_) (fun c49 => ?_)
      ·
        exact absurd c2 c49
      ·
        refine s_aload_n X (pc := 52) (x := (AD 10 0)) 0 dX9_plan_52 rfl ?_
        refine s_get X (pc := 53) (v := .ref (AD 4 0)) iX9_plan_X9 0 rfl rfl 4 (by decide) kX9_plan_40 rfl rfl dX9_plan_53 ?_
        refine s_callVi0 X (pc := 56) (r := rX7_hoursForAll (sX7_search_8 pl0 pl1 pl2 pl3 pl4 pl5 sh0 sh2 sh3 sh4 sh6 sh8 dy3 dy5 p0)) (w := wC G AD (AD 8 0) (AD 9 0) rd0 rd1 rd2 rd3 rd4 dy0 dy1 dy2 dy3 dy4 dy5 pa0 pa1 pa2 im0 im1 im2 (sX7_search_0 pl0 pl1 pl2 sh0 sh2 sh3 sh4 sh6 sh8 dy3 dy5) (sX7_search_1 pl0 pl1 pl2 sh0 sh2 sh3 sh4 sh6 sh8 dy3 dy5) (sX7_search_2 pl0 pl1 pl2 sh0 sh2 sh3 sh4 sh6 sh8 dy3 dy5) (sX7_search_3 pl0 pl1 pl2 pl3 pl4 pl5 sh0 sh2 sh3 sh4 sh6 sh8 dy3 dy5 p0) (sX7_search_4 pl0 pl1 pl2 pl3 pl4 pl5 sh0 sh2 sh3 sh4 sh6 sh8 dy3 dy5 p0) (sX7_search_5 pl0 pl1 pl2 pl3 pl4 pl5 sh0 sh2 sh3 sh4 sh6 sh8 dy3 dy5 p0) (sX7_search_6 p0) (sX7_search_7 pl0 pl1 pl2 sh0 sh2 sh3 sh4 sh6 sh8 dy3 dy5 p0) (sX7_search_8 pl0 pl1 pl2 pl3 pl4 pl5 sh0 sh2 sh3 sh4 sh6 sh8 dy3 dy5 p0) er0 er1 er2 bk0 bk1 bk2 dr0 sh0 sh1 sh2 sh3 sh4 sh5 sh6 sh7 sh8 sp0 sp1 sp2 sp3 sp4 sp5 sp6 sp7 sp8) (n := 0) (st := []) (As := []) (w2 := wC G AD (AD 8 0) (AD 9 0) rd0 rd1 rd2 rd3 rd4 dy0 dy1 dy2 dy3 dy4 dy5 pa0 pa1 pa2 im0 im1 im2 (sX7_search_0 pl0 pl1 pl2 sh0 sh2 sh3 sh4 sh6 sh8 dy3 dy5) (sX7_search_1 pl0 pl1 pl2 sh0 sh2 sh3 sh4 sh6 sh8 dy3 dy5) (sX7_search_2 pl0 pl1 pl2 sh0 sh2 sh3 sh4 sh6 sh8 dy3 dy5) (sX7_search_3 pl0 pl1 pl2 pl3 pl4 pl5 sh0 sh2 sh3 sh4 sh6 sh8 dy3 dy5 p0) (sX7_search_4 pl0 pl1 pl2 pl3 pl4 pl5 sh0 sh2 sh3 sh4 sh6 sh8 dy3 dy5 p0) (sX7_search_5 pl0 pl1 pl2 pl3 pl4 pl5 sh0 sh2 sh3 sh4 sh6 sh8 dy3 dy5 p0) (sX7_search_6 p0) (sX7_search_7 pl0 pl1 pl2 sh0 sh2 sh3 sh4 sh6 sh8 dy3 dy5 p0) (sX7_search_8 pl0 pl1 pl2 pl3 pl4 pl5 sh0 sh2 sh3 sh4 sh6 sh8 dy3 dy5 p0) er0 er1 er2 bk0 bk1 bk2 dr0 sh0 sh1 sh2 sh3 sh4 sh5 sh6 sh7 sh8 sp0 sp1 sp2 sp3 sp4 sp5 sp6 sp7 sp8) 0 (c_L4_X7_hoursForAll l G AD (AD 8 0) (AD 9 0) rd0 rd1 rd2 rd3 rd4 dy0 dy1 dy2 dy3 dy4 dy5 pa0 pa1 pa2 im0 im1 im2 (sX7_search_0 pl0 pl1 pl2 sh0 sh2 sh3 sh4 sh6 sh8 dy3 dy5) (sX7_search_1 pl0 pl1 pl2 sh0 sh2 sh3 sh4 sh6 sh8 dy3 dy5) (sX7_search_2 pl0 pl1 pl2 sh0 sh2 sh3 sh4 sh6 sh8 dy3 dy5) (sX7_search_3 pl0 pl1 pl2 pl3 pl4 pl5 sh0 sh2 sh3 sh4 sh6 sh8 dy3 dy5 p0) (sX7_search_4 pl0 pl1 pl2 pl3 pl4 pl5 sh0 sh2 sh3 sh4 sh6 sh8 dy3 dy5 p0) (sX7_search_5 pl0 pl1 pl2 pl3 pl4 pl5 sh0 sh2 sh3 sh4 sh6 sh8 dy3 dy5 p0) (sX7_search_6 p0) (sX7_search_7 pl0 pl1 pl2 sh0 sh2 sh3 sh4 sh6 sh8 dy3 dy5 p0) (sX7_search_8 pl0 pl1 pl2 pl3 pl4 pl5 sh0 sh2 sh3 sh4 sh6 sh8 dy3 dy5 p0) er0 er1 er2 bk0 bk1 bk2 dr0 sh0 sh1 sh2 sh3 sh4 sh5 sh6 sh7 sh8 sp0 sp1 sp2 sp3 sp4 sp5 sp6 sp7 sp8) gX9_plan_X7_hoursForAll rfl (by decide +kernel) ⟨Nat.le_of_ble_eq_true rfl, Nat.le_of_ble_eq_true rfl⟩ 15 rfl rfl rfl rfl (Nat.le_of_ble_eq_true rfl) (Nat.zero_le _) (Nat.zero_le _) dX9_plan_56 ?_
        refine s_goto X (pc := 59) (tgt := 70) dX9_plan_59 (by decide) ?_
        exact s_iret X (pc := 70) (v := rX7_hoursForAll (sX7_search_8 pl0 pl1 pl2 pl3 pl4 pl5 sh0 sh2 sh3 sh4 sh6 sh8 dy3 dy5 p0)) dX9_plan_70 (Eq.symm (show rX9_plan dy3 dy5 pl0 pl1 pl2 pl3 pl4 pl5 sh0 sh2 sh3 sh4 sh6 sh8 p0 p1 = rX7_hoursForAll (sX7_search_8 pl0 pl1 pl2 pl3 pl4 pl5 sh0 sh2 sh3 sh4 sh6 sh8 dy3 dy5 p0) from (by unfold rX9_plan; exact ((if_pos c2).trans (if_pos c25))))) (by rw [show sX9_plan_o4_0 dy3 dy5 pl0 pl1 pl2 sh0 sh2 sh3 sh4 sh6 sh8 p0 p1 = sX7_search_0 pl0 pl1 pl2 sh0 sh2 sh3 sh4 sh6 sh8 dy3 dy5 from (by unfold sX9_plan_o4_0; exact ((if_pos c2).trans (if_pos c25))), show sX9_plan_o4_1 dy3 dy5 pl0 pl1 pl2 sh0 sh2 sh3 sh4 sh6 sh8 p0 p1 = sX7_search_1 pl0 pl1 pl2 sh0 sh2 sh3 sh4 sh6 sh8 dy3 dy5 from (by unfold sX9_plan_o4_1; exact ((if_pos c2).trans (if_pos c25))), show sX9_plan_o4_2 dy3 dy5 pl0 pl1 pl2 sh0 sh2 sh3 sh4 sh6 sh8 p0 p1 = sX7_search_2 pl0 pl1 pl2 sh0 sh2 sh3 sh4 sh6 sh8 dy3 dy5 from (by unfold sX9_plan_o4_2; exact ((if_pos c2).trans (if_pos c25))), show sX9_plan_o4_3 dy3 dy5 pl0 pl1 pl2 pl3 pl4 pl5 sh0 sh2 sh3 sh4 sh6 sh8 p0 p1 = sX7_search_3 pl0 pl1 pl2 pl3 pl4 pl5 sh0 sh2 sh3 sh4 sh6 sh8 dy3 dy5 p0 from (by unfold sX9_plan_o4_3; exact ((if_pos c2).trans (if_pos c25))), show sX9_plan_o4_4 dy3 dy5 pl0 pl1 pl2 pl3 pl4 pl5 sh0 sh2 sh3 sh4 sh6 sh8 p0 p1 = sX7_search_4 pl0 pl1 pl2 pl3 pl4 pl5 sh0 sh2 sh3 sh4 sh6 sh8 dy3 dy5 p0 from (by unfold sX9_plan_o4_4; exact ((if_pos c2).trans (if_pos c25))), show sX9_plan_o4_5 dy3 dy5 pl0 pl1 pl2 pl3 pl4 pl5 sh0 sh2 sh3 sh4 sh6 sh8 p0 p1 = sX7_search_5 pl0 pl1 pl2 pl3 pl4 pl5 sh0 sh2 sh3 sh4 sh6 sh8 dy3 dy5 p0 from (by unfold sX9_plan_o4_5; exact ((if_pos c2).trans (if_pos c25))), show sX9_plan_o4_6 pl6 sh8 p0 p1 = sX7_search_6 p0 from (by unfold sX9_plan_o4_6; exact ((if_pos c2).trans (if_pos c25))), show sX9_plan_o4_7 dy3 dy5 pl0 pl1 pl2 pl7 sh0 sh2 sh3 sh4 sh6 sh8 p0 p1 = sX7_search_7 pl0 pl1 pl2 sh0 sh2 sh3 sh4 sh6 sh8 dy3 dy5 p0 from (by unfold sX9_plan_o4_7; exact ((if_pos c2).trans (if_pos c25))), show sX9_plan_o4_8 dy3 dy5 pl0 pl1 pl2 pl3 pl4 pl5 pl8 sh0 sh2 sh3 sh4 sh6 sh8 p0 p1 = sX7_search_8 pl0 pl1 pl2 pl3 pl4 pl5 sh0 sh2 sh3 sh4 sh6 sh8 dy3 dy5 p0 from (by unfold sX9_plan_o4_8; exact ((if_pos c2).trans (if_pos c25)))])
    ·
      refine s_ldc X (pc := 28) (v := -1000000002) kX9_plan_c79 dX9_plan_28 ?_
      exact s_iret X (pc := 30) (v := (-1000000002 : Int32)) dX9_plan_30 (Eq.symm (show rX9_plan dy3 dy5 pl0 pl1 pl2 pl3 pl4 pl5 sh0 sh2 sh3 sh4 sh6 sh8 p0 p1 = (-1000000002 : Int32) from (by unfold rX9_plan; exact ((if_pos c2).trans (if_neg c25))))) (by rw [show sX9_plan_o4_0 dy3 dy5 pl0 pl1 pl2 sh0 sh2 sh3 sh4 sh6 sh8 p0 p1 = pl0 from (by unfold sX9_plan_o4_0; exact ((if_pos c2).trans (if_neg c25))), show sX9_plan_o4_1 dy3 dy5 pl0 pl1 pl2 sh0 sh2 sh3 sh4 sh6 sh8 p0 p1 = pl1 from (by unfold sX9_plan_o4_1; exact ((if_pos c2).trans (if_neg c25))), show sX9_plan_o4_2 dy3 dy5 pl0 pl1 pl2 sh0 sh2 sh3 sh4 sh6 sh8 p0 p1 = pl2 from (by unfold sX9_plan_o4_2; exact ((if_pos c2).trans (if_neg c25))), show sX9_plan_o4_3 dy3 dy5 pl0 pl1 pl2 pl3 pl4 pl5 sh0 sh2 sh3 sh4 sh6 sh8 p0 p1 = pl3 from (by unfold sX9_plan_o4_3; exact ((if_pos c2).trans (if_neg c25))), show sX9_plan_o4_4 dy3 dy5 pl0 pl1 pl2 pl3 pl4 pl5 sh0 sh2 sh3 sh4 sh6 sh8 p0 p1 = pl4 from (by unfold sX9_plan_o4_4; exact ((if_pos c2).trans (if_neg c25))), show sX9_plan_o4_5 dy3 dy5 pl0 pl1 pl2 pl3 pl4 pl5 sh0 sh2 sh3 sh4 sh6 sh8 p0 p1 = pl5 from (by unfold sX9_plan_o4_5; exact ((if_pos c2).trans (if_neg c25))), show sX9_plan_o4_6 pl6 sh8 p0 p1 = pl6 from (by unfold sX9_plan_o4_6; exact ((if_pos c2).trans (if_neg c25))), show sX9_plan_o4_7 dy3 dy5 pl0 pl1 pl2 pl7 sh0 sh2 sh3 sh4 sh6 sh8 p0 p1 = pl7 from (by unfold sX9_plan_o4_7; exact ((if_pos c2).trans (if_neg c25))), show sX9_plan_o4_8 dy3 dy5 pl0 pl1 pl2 pl3 pl4 pl5 pl8 sh0 sh2 sh3 sh4 sh6 sh8 p0 p1 = pl8 from (by unfold sX9_plan_o4_8; exact ((if_pos c2).trans (if_neg c25)))])
  ·
    refine s_aload_n X (pc := 5) (x := (AD 10 0)) 0 dX9_plan_5 rfl ?_
    refine s_get X (pc := 6) (v := .ref (AD 8 0)) iX9_plan_X9 0 rfl rfl 8 (by decide) kX9_plan_68 rfl rfl dX9_plan_6 ?_
    refine s_iload_n X (pc := 9) (x := p1) 2 dX9_plan_9 rfl ?_
    refine s_callVi0 X (pc := 10) (r := rX0_hasCase sh8 p1) (w := wC G AD (AD 8 0) (AD 9 0) rd0 rd1 rd2 rd3 rd4 dy0 dy1 dy2 dy3 dy4 dy5 pa0 pa1 pa2 im0 im1 im2 pl0 pl1 pl2 pl3 pl4 pl5 pl6 pl7 pl8 er0 er1 er2 bk0 bk1 bk2 dr0 sh0 sh1 sh2 sh3 sh4 sh5 sh6 sh7 sh8 sp0 sp1 sp2 sp3 sp4 sp5 sp6 sp7 sp8) (n := 1) (st := []) (As := [.int p1]) (w2 := wC G AD (AD 8 0) (AD 9 0) rd0 rd1 rd2 rd3 rd4 dy0 dy1 dy2 dy3 dy4 dy5 pa0 pa1 pa2 im0 im1 im2 pl0 pl1 pl2 pl3 pl4 pl5 pl6 pl7 pl8 er0 er1 er2 bk0 bk1 bk2 dr0 sh0 sh1 sh2 sh3 sh4 sh5 sh6 sh7 sh8 sp0 sp1 sp2 sp3 sp4 sp5 sp6 sp7 sp8) 0 (c_L8_X0_hasCase l G AD (AD 8 0) (AD 9 0) rd0 rd1 rd2 rd3 rd4 dy0 dy1 dy2 dy3 dy4 dy5 pa0 pa1 pa2 im0 im1 im2 pl0 pl1 pl2 pl3 pl4 pl5 pl6 pl7 pl8 er0 er1 er2 bk0 bk1 bk2 dr0 sh0 sh1 sh2 sh3 sh4 sh5 sh6 sh7 sh8 sp0 sp1 sp2 sp3 sp4 sp5 sp6 sp7 sp8 p1) gX9_plan_X0_hasCase rfl (by decide +kernel) ⟨Nat.le_of_ble_eq_true rfl, Nat.le_of_ble_eq_true rfl⟩ 29 rfl rfl rfl rfl (Nat.le_of_ble_eq_true rfl) (Nat.zero_le _) (Nat.zero_le _) dX9_plan_10 ?_
    refine s_if_ne X (pc := 13) (tgt := 19) dX9_plan_13 (by decide) (fun c13 => ?_) (fun c13 => ?_)
    ·
      have q13 := hasCase_i c13
      have v13 : vp_in _ 5 := vin (b := 5) rfl q13.1 (Int32.lt_of_lt_of_le q13.2 cb)
      refine s_iload_n X (pc := 19) (x := p0) 1 dX9_plan_19 rfl ?_
      refine s_iconst X (pc := 20) (v := 1) dX9_plan_20 (by decide) ?_
      refine s_iconst X (pc := 21) (v := 4) dX9_plan_21 (by decide) ?_
      refine s_callSiN X (pc := 22) (r := rX9_isOutside p0 (1 : Int32) (4 : Int32)) (n := 3) (st := []) (As := [.int p0, .int (1 : Int32), .int (4 : Int32)]) 0 (c_X9_isOutside l G p0 (1 : Int32) (4 : Int32)) gX9_plan_X9_isOutside rfl (by decide +kernel) ⟨Nat.le_of_ble_eq_true rfl, Nat.le_of_ble_eq_true rfl⟩ rfl rfl (Nat.le_of_ble_eq_true rfl) (Nat.zero_le _) (Nat.zero_le _) dX9_plan_22 ?_
      refine s_if_eq X (pc := 25) (tgt := 31) dX9_plan_25 (by decide) (fun c25 => ?_) (fun c25 => ?_)
      ·
        have q25 := isO.mp c25
        refine s_aload_n X (pc := 31) (x := (AD 10 0)) 0 dX9_plan_31 rfl ?_
        refine s_get X (pc := 32) (v := .ref (AD 4 0)) iX9_plan_X9 0 rfl rfl 4 (by decide) kX9_plan_40 rfl rfl dX9_plan_32 ?_
        refine s_aload_n X (pc := 35) (x := (AD 10 0)) 0 dX9_plan_35 rfl ?_
        refine s_get X (pc := 36) (v := .ref (AD 8 0)) iX9_plan_X9 0 rfl rfl 8 (by decide) kX9_plan_68 rfl rfl dX9_plan_36 ?_
        refine s_aload_n X (pc := 39) (x := (AD 10 0)) 0 dX9_plan_39 rfl ?_
        refine s_get X (pc := 40) (v := .ref (AD 1 0)) iX9_plan_X9 0 rfl rfl 1 (by decide) kX9_plan_19 rfl rfl dX9_plan_40 ?_
        refine s_iload_n X (pc := 43) (x := p0) 1 dX9_plan_43 rfl ?_
        refine s_callVv0 X (pc := 44) (w := wC G AD (AD 8 0) (AD 9 0) rd0 rd1 rd2 rd3 rd4 dy0 dy1 dy2 dy3 dy4 dy5 pa0 pa1 pa2 im0 im1 im2 pl0 pl1 pl2 pl3 pl4 pl5 pl6 pl7 pl8 er0 er1 er2 bk0 bk1 bk2 dr0 sh0 sh1 sh2 sh3 sh4 sh5 sh6 sh7 sh8 sp0 sp1 sp2 sp3 sp4 sp5 sp6 sp7 sp8) (n := 3) (st := []) (As := [.ref (AD 8 0), .ref (AD 1 0), .int p0]) (w2 := wC G AD (AD 8 0) (AD 9 0) rd0 rd1 rd2 rd3 rd4 dy0 dy1 dy2 dy3 dy4 dy5 pa0 pa1 pa2 im0 im1 im2 (sX7_search_0 pl0 pl1 pl2 sh0 sh2 sh3 sh4 sh6 sh8 dy3 dy5) (sX7_search_1 pl0 pl1 pl2 sh0 sh2 sh3 sh4 sh6 sh8 dy3 dy5) (sX7_search_2 pl0 pl1 pl2 sh0 sh2 sh3 sh4 sh6 sh8 dy3 dy5) (sX7_search_3 pl0 pl1 pl2 pl3 pl4 pl5 sh0 sh2 sh3 sh4 sh6 sh8 dy3 dy5 p0) (sX7_search_4 pl0 pl1 pl2 pl3 pl4 pl5 sh0 sh2 sh3 sh4 sh6 sh8 dy3 dy5 p0) (sX7_search_5 pl0 pl1 pl2 pl3 pl4 pl5 sh0 sh2 sh3 sh4 sh6 sh8 dy3 dy5 p0) (sX7_search_6 p0) (sX7_search_7 pl0 pl1 pl2 sh0 sh2 sh3 sh4 sh6 sh8 dy3 dy5 p0) (sX7_search_8 pl0 pl1 pl2 pl3 pl4 pl5 sh0 sh2 sh3 sh4 sh6 sh8 dy3 dy5 p0) er0 er1 er2 bk0 bk1 bk2 dr0 sh0 sh1 sh2 sh3 sh4 sh5 sh6 sh7 sh8 sp0 sp1 sp2 sp3 sp4 sp5 sp6 sp7 sp8) 8 (c_L4_8_1_X7_search l G AD (AD 8 0) (AD 9 0) rd0 rd1 rd2 rd3 rd4 dy0 dy1 dy2 dy3 dy4 dy5 pa0 pa1 pa2 im0 im1 im2 pl0 pl1 pl2 pl3 pl4 pl5 pl6 pl7 pl8 er0 er1 er2 bk0 bk1 bk2 dr0 sh0 sh1 sh2 sh3 sh4 sh5 sh6 sh7 sh8 sp0 sp1 sp2 sp3 sp4 sp5 sp6 sp7 sp8 p0 t12 cb hL (by grind)) gX9_plan_X7_search rfl (by decide +kernel) ⟨Nat.le_of_ble_eq_true rfl, Nat.le_of_ble_eq_true rfl⟩ 15 rfl rfl rfl rfl (Nat.le_of_ble_eq_true rfl) (Nat.zero_le _) (Nat.zero_le _) dX9_plan_44 ?_
        refine s_iload_n X (pc := 47) (x := p1) 2 dX9_plan_47 rfl ?_
        refine s_iconst X (pc := 48) (v := -1) dX9_plan_48 (by decide) ?_
        refine s_icmp_ne X (pc := 49) (tgt := 62) dX9_plan_49 (by decide) (fun c49 => ?_) (fun c49 => ?_)
        ·
          refine s_aload_n X (pc := 62) (x := (AD 10 0)) 0 dX9_plan_62 rfl ?_
          refine s_get X (pc := 63) (v := .ref (AD 4 0)) iX9_plan_X9 0 rfl rfl 4 (by decide) kX9_plan_40 rfl rfl dX9_plan_63 ?_
          refine s_iload_n X (pc := 66) (x := p1) 2 dX9_plan_66 rfl ?_
          refine s_callVi0 X (pc := 67) (r := rX7_beginOf (sX7_search_4 pl0 pl1 pl2 pl3 pl4 pl5 sh0 sh2 sh3 sh4 sh6 sh8 dy3 dy5 p0) p1) (w := wC G AD (AD 8 0) (AD 9 0) rd0 rd1 rd2 rd3 rd4 dy0 dy1 dy2 dy3 dy4 dy5 pa0 pa1 pa2 im0 im1 im2 (sX7_search_0 pl0 pl1 pl2 sh0 sh2 sh3 sh4 sh6 sh8 dy3 dy5) (sX7_search_1 pl0 pl1 pl2 sh0 sh2 sh3 sh4 sh6 sh8 dy3 dy5) (sX7_search_2 pl0 pl1 pl2 sh0 sh2 sh3 sh4 sh6 sh8 dy3 dy5) (sX7_search_3 pl0 pl1 pl2 pl3 pl4 pl5 sh0 sh2 sh3 sh4 sh6 sh8 dy3 dy5 p0) (sX7_search_4 pl0 pl1 pl2 pl3 pl4 pl5 sh0 sh2 sh3 sh4 sh6 sh8 dy3 dy5 p0) (sX7_search_5 pl0 pl1 pl2 pl3 pl4 pl5 sh0 sh2 sh3 sh4 sh6 sh8 dy3 dy5 p0) (sX7_search_6 p0) (sX7_search_7 pl0 pl1 pl2 sh0 sh2 sh3 sh4 sh6 sh8 dy3 dy5 p0) (sX7_search_8 pl0 pl1 pl2 pl3 pl4 pl5 sh0 sh2 sh3 sh4 sh6 sh8 dy3 dy5 p0) er0 er1 er2 bk0 bk1 bk2 dr0 sh0 sh1 sh2 sh3 sh4 sh5 sh6 sh7 sh8 sp0 sp1 sp2 sp3 sp4 sp5 sp6 sp7 sp8) (n := 1) (st := []) (As := [.int p1]) (w2 := wC G AD (AD 8 0) (AD 9 0) rd0 rd1 rd2 rd3 rd4 dy0 dy1 dy2 dy3 dy4 dy5 pa0 pa1 pa2 im0 im1 im2 (sX7_search_0 pl0 pl1 pl2 sh0 sh2 sh3 sh4 sh6 sh8 dy3 dy5) (sX7_search_1 pl0 pl1 pl2 sh0 sh2 sh3 sh4 sh6 sh8 dy3 dy5) (sX7_search_2 pl0 pl1 pl2 sh0 sh2 sh3 sh4 sh6 sh8 dy3 dy5) (sX7_search_3 pl0 pl1 pl2 pl3 pl4 pl5 sh0 sh2 sh3 sh4 sh6 sh8 dy3 dy5 p0) (sX7_search_4 pl0 pl1 pl2 pl3 pl4 pl5 sh0 sh2 sh3 sh4 sh6 sh8 dy3 dy5 p0) (sX7_search_5 pl0 pl1 pl2 pl3 pl4 pl5 sh0 sh2 sh3 sh4 sh6 sh8 dy3 dy5 p0) (sX7_search_6 p0) (sX7_search_7 pl0 pl1 pl2 sh0 sh2 sh3 sh4 sh6 sh8 dy3 dy5 p0) (sX7_search_8 pl0 pl1 pl2 pl3 pl4 pl5 sh0 sh2 sh3 sh4 sh6 sh8 dy3 dy5 p0) er0 er1 er2 bk0 bk1 bk2 dr0 sh0 sh1 sh2 sh3 sh4 sh5 sh6 sh7 sh8 sp0 sp1 sp2 sp3 sp4 sp5 sp6 sp7 sp8) 0 (c_L4_X7_beginOf l G AD (AD 8 0) (AD 9 0) rd0 rd1 rd2 rd3 rd4 dy0 dy1 dy2 dy3 dy4 dy5 pa0 pa1 pa2 im0 im1 im2 (sX7_search_0 pl0 pl1 pl2 sh0 sh2 sh3 sh4 sh6 sh8 dy3 dy5) (sX7_search_1 pl0 pl1 pl2 sh0 sh2 sh3 sh4 sh6 sh8 dy3 dy5) (sX7_search_2 pl0 pl1 pl2 sh0 sh2 sh3 sh4 sh6 sh8 dy3 dy5) (sX7_search_3 pl0 pl1 pl2 pl3 pl4 pl5 sh0 sh2 sh3 sh4 sh6 sh8 dy3 dy5 p0) (sX7_search_4 pl0 pl1 pl2 pl3 pl4 pl5 sh0 sh2 sh3 sh4 sh6 sh8 dy3 dy5 p0) (sX7_search_5 pl0 pl1 pl2 pl3 pl4 pl5 sh0 sh2 sh3 sh4 sh6 sh8 dy3 dy5 p0) (sX7_search_6 p0) (sX7_search_7 pl0 pl1 pl2 sh0 sh2 sh3 sh4 sh6 sh8 dy3 dy5 p0) (sX7_search_8 pl0 pl1 pl2 pl3 pl4 pl5 sh0 sh2 sh3 sh4 sh6 sh8 dy3 dy5 p0) er0 er1 er2 bk0 bk1 bk2 dr0 sh0 sh1 sh2 sh3 sh4 sh5 sh6 sh7 sh8 sp0 sp1 sp2 sp3 sp4 sp5 sp6 sp7 sp8 p1 v13) gX9_plan_X7_beginOf rfl (by decide +kernel) ⟨Nat.le_of_ble_eq_true rfl, Nat.le_of_ble_eq_true rfl⟩ 15 rfl rfl rfl rfl (Nat.le_of_ble_eq_true rfl) (Nat.zero_le _) (Nat.zero_le _) dX9_plan_67 ?_
          exact s_iret X (pc := 70) (v := rX7_beginOf (sX7_search_4 pl0 pl1 pl2 pl3 pl4 pl5 sh0 sh2 sh3 sh4 sh6 sh8 dy3 dy5 p0) p1) dX9_plan_70 (Eq.symm (show rX9_plan dy3 dy5 pl0 pl1 pl2 pl3 pl4 pl5 sh0 sh2 sh3 sh4 sh6 sh8 p0 p1 = rX7_beginOf (sX7_search_4 pl0 pl1 pl2 pl3 pl4 pl5 sh0 sh2 sh3 sh4 sh6 sh8 dy3 dy5 p0) p1 from (by unfold rX9_plan; exact ((if_neg c2).trans ((if_neg c13).trans (if_pos c25)))))) (by rw [show sX9_plan_o4_0 dy3 dy5 pl0 pl1 pl2 sh0 sh2 sh3 sh4 sh6 sh8 p0 p1 = sX7_search_0 pl0 pl1 pl2 sh0 sh2 sh3 sh4 sh6 sh8 dy3 dy5 from (by unfold sX9_plan_o4_0; exact ((if_neg c2).trans ((if_neg c13).trans (if_pos c25)))), show sX9_plan_o4_1 dy3 dy5 pl0 pl1 pl2 sh0 sh2 sh3 sh4 sh6 sh8 p0 p1 = sX7_search_1 pl0 pl1 pl2 sh0 sh2 sh3 sh4 sh6 sh8 dy3 dy5 from (by unfold sX9_plan_o4_1; exact ((if_neg c2).trans ((if_neg c13).trans (if_pos c25)))), show sX9_plan_o4_2 dy3 dy5 pl0 pl1 pl2 sh0 sh2 sh3 sh4 sh6 sh8 p0 p1 = sX7_search_2 pl0 pl1 pl2 sh0 sh2 sh3 sh4 sh6 sh8 dy3 dy5 from (by unfold sX9_plan_o4_2; exact ((if_neg c2).trans ((if_neg c13).trans (if_pos c25)))), show sX9_plan_o4_3 dy3 dy5 pl0 pl1 pl2 pl3 pl4 pl5 sh0 sh2 sh3 sh4 sh6 sh8 p0 p1 = sX7_search_3 pl0 pl1 pl2 pl3 pl4 pl5 sh0 sh2 sh3 sh4 sh6 sh8 dy3 dy5 p0 from (by unfold sX9_plan_o4_3; exact ((if_neg c2).trans ((if_neg c13).trans (if_pos c25)))), show sX9_plan_o4_4 dy3 dy5 pl0 pl1 pl2 pl3 pl4 pl5 sh0 sh2 sh3 sh4 sh6 sh8 p0 p1 = sX7_search_4 pl0 pl1 pl2 pl3 pl4 pl5 sh0 sh2 sh3 sh4 sh6 sh8 dy3 dy5 p0 from (by unfold sX9_plan_o4_4; exact ((if_neg c2).trans ((if_neg c13).trans (if_pos c25)))), show sX9_plan_o4_5 dy3 dy5 pl0 pl1 pl2 pl3 pl4 pl5 sh0 sh2 sh3 sh4 sh6 sh8 p0 p1 = sX7_search_5 pl0 pl1 pl2 pl3 pl4 pl5 sh0 sh2 sh3 sh4 sh6 sh8 dy3 dy5 p0 from (by unfold sX9_plan_o4_5; exact ((if_neg c2).trans ((if_neg c13).trans (if_pos c25)))), show sX9_plan_o4_6 pl6 sh8 p0 p1 = sX7_search_6 p0 from (by unfold sX9_plan_o4_6; exact ((if_neg c2).trans ((if_neg c13).trans (if_pos c25)))), show sX9_plan_o4_7 dy3 dy5 pl0 pl1 pl2 pl7 sh0 sh2 sh3 sh4 sh6 sh8 p0 p1 = sX7_search_7 pl0 pl1 pl2 sh0 sh2 sh3 sh4 sh6 sh8 dy3 dy5 p0 from (by unfold sX9_plan_o4_7; exact ((if_neg c2).trans ((if_neg c13).trans (if_pos c25)))), show sX9_plan_o4_8 dy3 dy5 pl0 pl1 pl2 pl3 pl4 pl5 pl8 sh0 sh2 sh3 sh4 sh6 sh8 p0 p1 = sX7_search_8 pl0 pl1 pl2 pl3 pl4 pl5 sh0 sh2 sh3 sh4 sh6 sh8 dy3 dy5 p0 from (by unfold sX9_plan_o4_8; exact ((if_neg c2).trans ((if_neg c13).trans (if_pos c25))))])
        ·
          exact absurd c49 c2
      ·
        refine s_ldc X (pc := 28) (v := -1000000002) kX9_plan_c79 dX9_plan_28 ?_
        exact s_iret X (pc := 30) (v := (-1000000002 : Int32)) dX9_plan_30 (Eq.symm (show rX9_plan dy3 dy5 pl0 pl1 pl2 pl3 pl4 pl5 sh0 sh2 sh3 sh4 sh6 sh8 p0 p1 = (-1000000002 : Int32) from (by unfold rX9_plan; exact ((if_neg c2).trans ((if_neg c13).trans (if_neg c25)))))) (by rw [show sX9_plan_o4_0 dy3 dy5 pl0 pl1 pl2 sh0 sh2 sh3 sh4 sh6 sh8 p0 p1 = pl0 from (by unfold sX9_plan_o4_0; exact ((if_neg c2).trans ((if_neg c13).trans (if_neg c25)))), show sX9_plan_o4_1 dy3 dy5 pl0 pl1 pl2 sh0 sh2 sh3 sh4 sh6 sh8 p0 p1 = pl1 from (by unfold sX9_plan_o4_1; exact ((if_neg c2).trans ((if_neg c13).trans (if_neg c25)))), show sX9_plan_o4_2 dy3 dy5 pl0 pl1 pl2 sh0 sh2 sh3 sh4 sh6 sh8 p0 p1 = pl2 from (by unfold sX9_plan_o4_2; exact ((if_neg c2).trans ((if_neg c13).trans (if_neg c25)))), show sX9_plan_o4_3 dy3 dy5 pl0 pl1 pl2 pl3 pl4 pl5 sh0 sh2 sh3 sh4 sh6 sh8 p0 p1 = pl3 from (by unfold sX9_plan_o4_3; exact ((if_neg c2).trans ((if_neg c13).trans (if_neg c25)))), show sX9_plan_o4_4 dy3 dy5 pl0 pl1 pl2 pl3 pl4 pl5 sh0 sh2 sh3 sh4 sh6 sh8 p0 p1 = pl4 from (by unfold sX9_plan_o4_4; exact ((if_neg c2).trans ((if_neg c13).trans (if_neg c25)))), show sX9_plan_o4_5 dy3 dy5 pl0 pl1 pl2 pl3 pl4 pl5 sh0 sh2 sh3 sh4 sh6 sh8 p0 p1 = pl5 from (by unfold sX9_plan_o4_5; exact ((if_neg c2).trans ((if_neg c13).trans (if_neg c25)))), show sX9_plan_o4_6 pl6 sh8 p0 p1 = pl6 from (by unfold sX9_plan_o4_6; exact ((if_neg c2).trans ((if_neg c13).trans (if_neg c25)))), show sX9_plan_o4_7 dy3 dy5 pl0 pl1 pl2 pl7 sh0 sh2 sh3 sh4 sh6 sh8 p0 p1 = pl7 from (by unfold sX9_plan_o4_7; exact ((if_neg c2).trans ((if_neg c13).trans (if_neg c25)))), show sX9_plan_o4_8 dy3 dy5 pl0 pl1 pl2 pl3 pl4 pl5 pl8 sh0 sh2 sh3 sh4 sh6 sh8 p0 p1 = pl8 from (by unfold sX9_plan_o4_8; exact ((if_neg c2).trans ((if_neg c13).trans (if_neg c25))))])
    ·
      refine s_ldc X (pc := 16) (v := -1000000001) kX9_plan_c152 dX9_plan_16 ?_
      exact s_iret X (pc := 18) (v := (-1000000001 : Int32)) dX9_plan_18 (Eq.symm (show rX9_plan dy3 dy5 pl0 pl1 pl2 pl3 pl4 pl5 sh0 sh2 sh3 sh4 sh6 sh8 p0 p1 = (-1000000001 : Int32) from (by unfold rX9_plan; exact ((if_neg c2).trans (if_pos c13))))) (by rw [show sX9_plan_o4_0 dy3 dy5 pl0 pl1 pl2 sh0 sh2 sh3 sh4 sh6 sh8 p0 p1 = pl0 from (by unfold sX9_plan_o4_0; exact ((if_neg c2).trans (if_pos c13))), show sX9_plan_o4_1 dy3 dy5 pl0 pl1 pl2 sh0 sh2 sh3 sh4 sh6 sh8 p0 p1 = pl1 from (by unfold sX9_plan_o4_1; exact ((if_neg c2).trans (if_pos c13))), show sX9_plan_o4_2 dy3 dy5 pl0 pl1 pl2 sh0 sh2 sh3 sh4 sh6 sh8 p0 p1 = pl2 from (by unfold sX9_plan_o4_2; exact ((if_neg c2).trans (if_pos c13))), show sX9_plan_o4_3 dy3 dy5 pl0 pl1 pl2 pl3 pl4 pl5 sh0 sh2 sh3 sh4 sh6 sh8 p0 p1 = pl3 from (by unfold sX9_plan_o4_3; exact ((if_neg c2).trans (if_pos c13))), show sX9_plan_o4_4 dy3 dy5 pl0 pl1 pl2 pl3 pl4 pl5 sh0 sh2 sh3 sh4 sh6 sh8 p0 p1 = pl4 from (by unfold sX9_plan_o4_4; exact ((if_neg c2).trans (if_pos c13))), show sX9_plan_o4_5 dy3 dy5 pl0 pl1 pl2 pl3 pl4 pl5 sh0 sh2 sh3 sh4 sh6 sh8 p0 p1 = pl5 from (by unfold sX9_plan_o4_5; exact ((if_neg c2).trans (if_pos c13))), show sX9_plan_o4_6 pl6 sh8 p0 p1 = pl6 from (by unfold sX9_plan_o4_6; exact ((if_neg c2).trans (if_pos c13))), show sX9_plan_o4_7 dy3 dy5 pl0 pl1 pl2 pl7 sh0 sh2 sh3 sh4 sh6 sh8 p0 p1 = pl7 from (by unfold sX9_plan_o4_7; exact ((if_neg c2).trans (if_pos c13))), show sX9_plan_o4_8 dy3 dy5 pl0 pl1 pl2 pl3 pl4 pl5 pl8 sh0 sh2 sh3 sh4 sh6 sh8 p0 p1 = pl8 from (by unfold sX9_plan_o4_8; exact ((if_neg c2).trans (if_pos c13)))])

theorem iX9_dry_X9 : ∀ z ∈ wsX90, z ∈ wsX9_dry := fun z h => List.mem_cons_of_mem _ (List.mem_append_left _ (List.mem_append_left _ (List.mem_append_right _ h)))
theorem kX9_dry_68 : Cond.fieldLink RX9 68 "BathingCourt" (TX9 8).2.1 (TX9 8).2.2.1 ∈ wsX9_dry := List.mem_of_getElem? (i := 2) rfl
theorem kX9_dry_c145 : Jvm.Cond.constant RX9 145 (-1000000003) ∈ wsX9_dry := List.mem_of_getElem? (i := 3) rfl
theorem kX9_dry_c79 : Jvm.Cond.constant RX9 79 (-1000000002) ∈ wsX9_dry := List.mem_of_getElem? (i := 1) rfl
def aX9_dry_25 (dy5 : Int32) (sh0 : Nat → Int32) (sh6 p0 : Int32) : Nat → Nat → Int32
  | 0, k25 => (-1 : Int32)
  | n25 + 1, k25 => if (rX9_depthBehind dy5 sh0 sh6 p0 (nI k25)) = 0 then (nI k25) else (aX9_dry_25 dy5 sh0 sh6 p0 n25 (k25 + 1))
def rX9_dry (dy5 : Int32) (sh0 : Nat → Int32) (sh6 p0 : Int32) : Int32 := if (rX9_isNoCell p0) = 0 then (if (rX0_stands sh6) = 0 then (-1000000003 : Int32) else (aX9_dry_25 dy5 sh0 sh6 p0 101 0)) else (-1000000002 : Int32)
set_option maxRecDepth 100000 in
set_option maxHeartbeats 4000000 in
theorem c_X9_dry (l : Launch) (G : GT) (AD : Nat → Nat → Nat) (rd0 : Nat → Int32) (rd1 rd2 rd3 rd4 : Int32) (dy0 dy1 dy2 dy3 dy4 : Nat → Int32) (dy5 : Int32) (pa0 : Nat → Int32) (pa1 pa2 : Int32) (im0 im1 im2 pl0 pl1 pl2 pl3 pl4 pl5 : Nat → Int32) (pl6 pl7 pl8 : Int32) (er0 er1 : Nat → Int32) (er2 : Int32) (bk0 bk1 : Nat → Int32) (bk2 dr0 : Int32) (sh0 sh1 sh2 sh3 sh4 sh5 : Nat → Int32) (sh6 sh7 sh8 : Int32) (sp0 sp1 sp2 sp3 sp4 sp5 : Nat → Int32) (sp6 sp7 sp8 p0 : Int32) (t12 : sh6 ≤ 12) : Ci l G yX9_dry wsX9_dry (rmL 2) [.ref (AD 10 0), .int p0] (wC G AD (AD 8 0) (AD 9 0) rd0 rd1 rd2 rd3 rd4 dy0 dy1 dy2 dy3 dy4 dy5 pa0 pa1 pa2 im0 im1 im2 pl0 pl1 pl2 pl3 pl4 pl5 pl6 pl7 pl8 er0 er1 er2 bk0 bk1 bk2 dr0 sh0 sh1 sh2 sh3 sh4 sh5 sh6 sh7 sh8 sp0 sp1 sp2 sp3 sp4 sp5 sp6 sp7 sp8) (rX9_dry dy5 sh0 sh6 p0) (wC G AD (AD 8 0) (AD 9 0) rd0 rd1 rd2 rd3 rd4 dy0 dy1 dy2 dy3 dy4 dy5 pa0 pa1 pa2 im0 im1 im2 pl0 pl1 pl2 pl3 pl4 pl5 pl6 pl7 pl8 er0 er1 er2 bk0 bk1 bk2 dr0 sh0 sh1 sh2 sh3 sh4 sh5 sh6 sh7 sh8 sp0 sp1 sp2 sp3 sp4 sp5 sp6 sp7 sp8) := by
  refine ci_start .int (by decide) rfl rfl (Nat.le_of_ble_eq_true rfl) ?_
  intro p e s m args below meth c A X
  refine s_perm (lv2 := [(0, .ref (AD 10 0)), (1, .int p0)]) [0, 1] rfl ?_
  refine s_iload_n X (pc := 0) (x := p0) 1 dX9_dry_0 rfl ?_
  refine s_callSiN X (pc := 1) (r := rX9_isNoCell p0) (n := 1) (st := []) (As := [.int p0]) 1 (c_X9_isNoCell l G p0) gX9_dry_X9_isNoCell rfl (by decide +kernel) ⟨Nat.le_of_ble_eq_true rfl, Nat.le_of_ble_eq_true rfl⟩ rfl rfl (Nat.le_of_ble_eq_true rfl) (Nat.zero_le _) (Nat.zero_le _) dX9_dry_1 ?_
  refine s_if_eq X (pc := 4) (tgt := 10) dX9_dry_4 (by decide) (fun c4 => ?_) (fun c4 => ?_)
  ·
    refine s_aload_n X (pc := 10) (x := (AD 10 0)) 0 dX9_dry_10 rfl ?_
    refine s_get X (pc := 11) (v := .ref (AD 8 0)) iX9_dry_X9 0 rfl rfl 8 (by decide) kX9_dry_68 rfl rfl dX9_dry_11 ?_
    refine s_callVi0 X (pc := 14) (r := rX0_stands sh6) (w := wC G AD (AD 8 0) (AD 9 0) rd0 rd1 rd2 rd3 rd4 dy0 dy1 dy2 dy3 dy4 dy5 pa0 pa1 pa2 im0 im1 im2 pl0 pl1 pl2 pl3 pl4 pl5 pl6 pl7 pl8 er0 er1 er2 bk0 bk1 bk2 dr0 sh0 sh1 sh2 sh3 sh4 sh5 sh6 sh7 sh8 sp0 sp1 sp2 sp3 sp4 sp5 sp6 sp7 sp8) (n := 0) (st := []) (As := []) (w2 := wC G AD (AD 8 0) (AD 9 0) rd0 rd1 rd2 rd3 rd4 dy0 dy1 dy2 dy3 dy4 dy5 pa0 pa1 pa2 im0 im1 im2 pl0 pl1 pl2 pl3 pl4 pl5 pl6 pl7 pl8 er0 er1 er2 bk0 bk1 bk2 dr0 sh0 sh1 sh2 sh3 sh4 sh5 sh6 sh7 sh8 sp0 sp1 sp2 sp3 sp4 sp5 sp6 sp7 sp8) 0 (c_L8_X0_stands l G AD (AD 8 0) (AD 9 0) rd0 rd1 rd2 rd3 rd4 dy0 dy1 dy2 dy3 dy4 dy5 pa0 pa1 pa2 im0 im1 im2 pl0 pl1 pl2 pl3 pl4 pl5 pl6 pl7 pl8 er0 er1 er2 bk0 bk1 bk2 dr0 sh0 sh1 sh2 sh3 sh4 sh5 sh6 sh7 sh8 sp0 sp1 sp2 sp3 sp4 sp5 sp6 sp7 sp8) gX9_dry_X0_stands rfl (by decide +kernel) ⟨Nat.le_of_ble_eq_true rfl, Nat.le_of_ble_eq_true rfl⟩ 29 rfl rfl rfl rfl (Nat.le_of_ble_eq_true rfl) (Nat.zero_le _) (Nat.zero_le _) dX9_dry_14 ?_
    refine s_if_ne X (pc := 17) (tgt := 23) dX9_dry_17 (by decide) (fun c17 => ?_) (fun c17 => ?_)
    ·
      refine s_iconst X (pc := 23) (v := 0) dX9_dry_23 (by decide) ?_
      refine s_istore_n X (pc := 24) (i := 2) (lv2 := [(2, .int (0 : Int32)), (0, .ref (AD 10 0)), (1, .int p0)]) dX9_dry_24 rfl (by decide) rfl ?_
      refine s_perm (lv2 := [(0, .ref (AD 10 0)), (1, .int p0), (2, .int (0 : Int32))]) [1, 2, 0] rfl ?_
      have L25 : ∀ (n25 k25 : Nat), k25 + n25 = 101 → rX9_dry dy5 sh0 sh6 p0 = aX9_dry_25 dy5 sh0 sh6 p0 n25 k25  → Sm p l e (rmL 2) s m args below meth c G A 3 0 0 (Qci below G A args s (rX9_dry dy5 sh0 sh6 p0) (wC G AD (AD 8 0) (AD 9 0) rd0 rd1 rd2 rd3 rd4 dy0 dy1 dy2 dy3 dy4 dy5 pa0 pa1 pa2 im0 im1 im2 pl0 pl1 pl2 pl3 pl4 pl5 pl6 pl7 pl8 er0 er1 er2 bk0 bk1 bk2 dr0 sh0 sh1 sh2 sh3 sh4 sh5 sh6 sh7 sh8 sp0 sp1 sp2 sp3 sp4 sp5 sp6 sp7 sp8)) 25 [(0, .ref (AD 10 0)), (1, .int p0), (2, .int (nI k25))] [] (wC G AD (AD 8 0) (AD 9 0) rd0 rd1 rd2 rd3 rd4 dy0 dy1 dy2 dy3 dy4 dy5 pa0 pa1 pa2 im0 im1 im2 pl0 pl1 pl2 pl3 pl4 pl5 pl6 pl7 pl8 er0 er1 er2 bk0 bk1 bk2 dr0 sh0 sh1 sh2 sh3 sh4 sh5 sh6 sh7 sh8 sp0 sp1 sp2 sp3 sp4 sp5 sp6 sp7 sp8) := by
        intro n25
        induction n25 with
        | zero =>
          intro k25  hk25 hv25
          have hK25 : k25 = 101 := by omega
          have tk25 : (nI k25).toInt = ((k25 : Nat) : Int) := nI_toInt (by omega)
          have eN25 : ((100 : Int32)).toInt = 100 := rfl
          refine s_iload_n X (pc := 25) (x := nI k25) 2 dX9_dry_25 rfl ?_
          refine s_bipush X (pc := 26) (v := 100) dX9_dry_26 (by decide) ?_
          refine s_icmp_gt X (pc := 28) (tgt := 48) dX9_dry_28 (by decide) (fun c28 => ?_) (fun c28 => ?_)
          ·
            refine s_iconst X (pc := 48) (v := -1) dX9_dry_48 (by decide) ?_
            exact s_iret X (pc := 49) (v := (-1 : Int32)) dX9_dry_49 (Eq.symm (show rX9_dry dy5 sh0 sh6 p0 = (-1 : Int32) from (hv25.trans (show aX9_dry_25 dy5 sh0 sh6 p0 0 k25  = (-1 : Int32) from by rw [aX9_dry_25])))) rfl
          ·
            exact absurd ((t_lt eN25 tk25).mpr (by omega)) c28
        | succ n25 ih25 =>
          intro k25  hk25 hv25
          have hlt25 : k25 < 101 := by omega
          have tk25 : (nI k25).toInt = ((k25 : Nat) : Int) := nI_toInt (by omega)
          have eN25 : ((100 : Int32)).toInt = 100 := rfl
          refine s_iload_n X (pc := 25) (x := nI k25) 2 dX9_dry_25 rfl ?_
          refine s_bipush X (pc := 26) (v := 100) dX9_dry_26 (by decide) ?_
          refine s_icmp_gt X (pc := 28) (tgt := 48) dX9_dry_28 (by decide) (fun c28 => ?_) (fun c28 => ?_)
          ·
            exact absurd ((t_lt eN25 tk25).mp c28) (by omega)
          ·
            refine s_aload_n X (pc := 31) (x := (AD 10 0)) 0 dX9_dry_31 rfl ?_
            refine s_iload_n X (pc := 32) (x := p0) 1 dX9_dry_32 rfl ?_
            refine s_iload_n X (pc := 33) (x := nI k25) 2 dX9_dry_33 rfl ?_
            refine s_callVi0 X (pc := 34) (r := rX9_depthBehind dy5 sh0 sh6 p0 (nI k25)) (w := wC G AD (AD 8 0) (AD 9 0) rd0 rd1 rd2 rd3 rd4 dy0 dy1 dy2 dy3 dy4 dy5 pa0 pa1 pa2 im0 im1 im2 pl0 pl1 pl2 pl3 pl4 pl5 pl6 pl7 pl8 er0 er1 er2 bk0 bk1 bk2 dr0 sh0 sh1 sh2 sh3 sh4 sh5 sh6 sh7 sh8 sp0 sp1 sp2 sp3 sp4 sp5 sp6 sp7 sp8) (n := 2) (st := []) (As := [.int p0, .int (nI k25)]) (w2 := wC G AD (AD 8 0) (AD 9 0) rd0 rd1 rd2 rd3 rd4 dy0 dy1 dy2 dy3 dy4 dy5 pa0 pa1 pa2 im0 im1 im2 pl0 pl1 pl2 pl3 pl4 pl5 pl6 pl7 pl8 er0 er1 er2 bk0 bk1 bk2 dr0 sh0 sh1 sh2 sh3 sh4 sh5 sh6 sh7 sh8 sp0 sp1 sp2 sp3 sp4 sp5 sp6 sp7 sp8) 1 (c_X9_depthBehind l G AD rd0 rd1 rd2 rd3 rd4 dy0 dy1 dy2 dy3 dy4 dy5 pa0 pa1 pa2 im0 im1 im2 pl0 pl1 pl2 pl3 pl4 pl5 pl6 pl7 pl8 er0 er1 er2 bk0 bk1 bk2 dr0 sh0 sh1 sh2 sh3 sh4 sh5 sh6 sh7 sh8 sp0 sp1 sp2 sp3 sp4 sp5 sp6 sp7 sp8 p0 (nI k25) t12) gX9_dry_X9_depthBehind rfl (by decide +kernel) ⟨Nat.le_of_ble_eq_true rfl, Nat.le_of_ble_eq_true rfl⟩ 0 rfl rfl rfl rfl (Nat.le_of_ble_eq_true rfl) (Nat.zero_le _) (Nat.zero_le _) dX9_dry_34 ?_
            refine s_if_ne X (pc := 37) (tgt := 42) dX9_dry_37 (by decide) (fun c37 => ?_) (fun c37 => ?_)
            ·
              refine s_iinc X (pc := 42) (v := nI (k25 + 1)) (lv2 := [(2, .int (nI (k25 + 1))), (0, .ref (AD 10 0)), (1, .int p0)]) 2 dX9_dry_42 rfl (nI_1 _) (by decide) rfl ?_
              refine s_goto X (pc := 45) (tgt := 25) dX9_dry_45 (by decide) ?_
              refine s_perm (lv2 := [(0, .ref (AD 10 0)), (1, .int p0), (2, .int (nI (k25 + 1)))]) [1, 2, 0] rfl ?_
              exact ih25 (k25 + 1)  (by omega) (hv25.trans (show aX9_dry_25 dy5 sh0 sh6 p0 (n25 + 1) k25  = aX9_dry_25 dy5 sh0 sh6 p0 n25 (k25 + 1)  from by rw [aX9_dry_25]; exact (if_neg c37)))
            ·
              refine s_iload_n X (pc := 40) (x := nI k25) 2 dX9_dry_40 rfl ?_
              exact s_iret X (pc := 41) (v := nI k25) dX9_dry_41 (Eq.symm (show rX9_dry dy5 sh0 sh6 p0 = nI k25 from (hv25.trans (show aX9_dry_25 dy5 sh0 sh6 p0 (n25 + 1) k25  = nI k25 from by rw [aX9_dry_25]; exact (if_pos c37))))) rfl
      exact L25 101 0  (Nat.zero_add _) (by unfold rX9_dry; exact ((if_pos c4).trans (if_neg c17)))
    ·
      refine s_ldc X (pc := 20) (v := -1000000003) kX9_dry_c145 dX9_dry_20 ?_
      exact s_iret X (pc := 22) (v := (-1000000003 : Int32)) dX9_dry_22 (Eq.symm (show rX9_dry dy5 sh0 sh6 p0 = (-1000000003 : Int32) from (by unfold rX9_dry; exact ((if_pos c4).trans (if_pos c17))))) rfl
  ·
    refine s_ldc X (pc := 7) (v := -1000000002) kX9_dry_c79 dX9_dry_7 ?_
    exact s_iret X (pc := 9) (v := (-1000000002 : Int32)) dX9_dry_9 (Eq.symm (show rX9_dry dy5 sh0 sh6 p0 = (-1000000002 : Int32) from (by unfold rX9_dry; exact (if_neg c4)))) rfl

theorem iX9_stays_X9 : ∀ z ∈ wsX90, z ∈ wsX9_stays := fun z h => List.mem_cons_of_mem _ (List.mem_append_left _ (List.mem_append_left _ (List.mem_append_right _ h)))
theorem kX9_stays_c79 : Jvm.Cond.constant RX9 79 (-1000000002) ∈ wsX9_stays := List.mem_of_getElem? (i := 1) rfl
theorem kX9_stays_68 : Cond.fieldLink RX9 68 "BathingCourt" (TX9 8).2.1 (TX9 8).2.2.1 ∈ wsX9_stays := List.mem_of_getElem? (i := 2) rfl
theorem kX9_stays_c145 : Jvm.Cond.constant RX9 145 (-1000000003) ∈ wsX9_stays := List.mem_of_getElem? (i := 3) rfl
def aX9_stays_32 (dy5 : Int32) (sh0 : Nat → Int32) (sh6 p0 p1 : Int32) : Nat → Nat → Int32
  | 0, k32 => (100 : Int32)
  | n32 + 1, k32 => if (rX9_depthBehind dy5 sh0 sh6 p0 (nI k32)) ≤ p1 then (aX9_stays_32 dy5 sh0 sh6 p0 p1 n32 (k32 + 1)) else (nI k32)
def rX9_stays (dy5 : Int32) (sh0 : Nat → Int32) (sh6 p0 p1 : Int32) : Int32 := if (rX9_isNoCell p0) = 0 then (if (rX9_isNoDepth p1) = 0 then (if (rX0_stands sh6) = 0 then (-1000000003 : Int32) else (aX9_stays_32 dy5 sh0 sh6 p0 p1 100 0)) else (-1000000002 : Int32)) else (-1000000002 : Int32)
set_option maxRecDepth 100000 in
set_option maxHeartbeats 4000000 in
theorem c_X9_stays (l : Launch) (G : GT) (AD : Nat → Nat → Nat) (rd0 : Nat → Int32) (rd1 rd2 rd3 rd4 : Int32) (dy0 dy1 dy2 dy3 dy4 : Nat → Int32) (dy5 : Int32) (pa0 : Nat → Int32) (pa1 pa2 : Int32) (im0 im1 im2 pl0 pl1 pl2 pl3 pl4 pl5 : Nat → Int32) (pl6 pl7 pl8 : Int32) (er0 er1 : Nat → Int32) (er2 : Int32) (bk0 bk1 : Nat → Int32) (bk2 dr0 : Int32) (sh0 sh1 sh2 sh3 sh4 sh5 : Nat → Int32) (sh6 sh7 sh8 : Int32) (sp0 sp1 sp2 sp3 sp4 sp5 : Nat → Int32) (sp6 sp7 sp8 p0 p1 : Int32) (t12 : sh6 ≤ 12) : Ci l G yX9_stays wsX9_stays (rmL 2) [.ref (AD 10 0), .int p0, .int p1] (wC G AD (AD 8 0) (AD 9 0) rd0 rd1 rd2 rd3 rd4 dy0 dy1 dy2 dy3 dy4 dy5 pa0 pa1 pa2 im0 im1 im2 pl0 pl1 pl2 pl3 pl4 pl5 pl6 pl7 pl8 er0 er1 er2 bk0 bk1 bk2 dr0 sh0 sh1 sh2 sh3 sh4 sh5 sh6 sh7 sh8 sp0 sp1 sp2 sp3 sp4 sp5 sp6 sp7 sp8) (rX9_stays dy5 sh0 sh6 p0 p1) (wC G AD (AD 8 0) (AD 9 0) rd0 rd1 rd2 rd3 rd4 dy0 dy1 dy2 dy3 dy4 dy5 pa0 pa1 pa2 im0 im1 im2 pl0 pl1 pl2 pl3 pl4 pl5 pl6 pl7 pl8 er0 er1 er2 bk0 bk1 bk2 dr0 sh0 sh1 sh2 sh3 sh4 sh5 sh6 sh7 sh8 sp0 sp1 sp2 sp3 sp4 sp5 sp6 sp7 sp8) := by
  refine ci_start .int (by decide) rfl rfl (Nat.le_of_ble_eq_true rfl) ?_
  intro p e s m args below meth c A X
  refine s_perm (lv2 := [(0, .ref (AD 10 0)), (1, .int p0), (2, .int p1)]) [0, 1, 2] rfl ?_
  refine s_iload_n X (pc := 0) (x := p0) 1 dX9_stays_0 rfl ?_
  refine s_callSiN X (pc := 1) (r := rX9_isNoCell p0) (n := 1) (st := []) (As := [.int p0]) 1 (c_X9_isNoCell l G p0) gX9_stays_X9_isNoCell rfl (by decide +kernel) ⟨Nat.le_of_ble_eq_true rfl, Nat.le_of_ble_eq_true rfl⟩ rfl rfl (Nat.le_of_ble_eq_true rfl) (Nat.zero_le _) (Nat.zero_le _) dX9_stays_1 ?_
  refine s_if_ne X (pc := 4) (tgt := 14) dX9_stays_4 (by decide) (fun c4 => ?_) (fun c4 => ?_)
  ·
    refine s_ldc X (pc := 14) (v := -1000000002) kX9_stays_c79 dX9_stays_14 ?_
    exact s_iret X (pc := 16) (v := (-1000000002 : Int32)) dX9_stays_16 (Eq.symm (show rX9_stays dy5 sh0 sh6 p0 p1 = (-1000000002 : Int32) from (by unfold rX9_stays; exact (if_neg c4)))) rfl
  ·
    refine s_iload_n X (pc := 7) (x := p1) 2 dX9_stays_7 rfl ?_
    refine s_callSiN X (pc := 8) (r := rX9_isNoDepth p1) (n := 1) (st := []) (As := [.int p1]) 1 (c_X9_isNoDepth l G p1) gX9_stays_X9_isNoDepth rfl (by decide +kernel) ⟨Nat.le_of_ble_eq_true rfl, Nat.le_of_ble_eq_true rfl⟩ rfl rfl (Nat.le_of_ble_eq_true rfl) (Nat.zero_le _) (Nat.zero_le _) dX9_stays_8 ?_
    refine s_if_eq X (pc := 11) (tgt := 17) dX9_stays_11 (by decide) (fun c11 => ?_) (fun c11 => ?_)
    ·
      refine s_aload_n X (pc := 17) (x := (AD 10 0)) 0 dX9_stays_17 rfl ?_
      refine s_get X (pc := 18) (v := .ref (AD 8 0)) iX9_stays_X9 0 rfl rfl 8 (by decide) kX9_stays_68 rfl rfl dX9_stays_18 ?_
      refine s_callVi0 X (pc := 21) (r := rX0_stands sh6) (w := wC G AD (AD 8 0) (AD 9 0) rd0 rd1 rd2 rd3 rd4 dy0 dy1 dy2 dy3 dy4 dy5 pa0 pa1 pa2 im0 im1 im2 pl0 pl1 pl2 pl3 pl4 pl5 pl6 pl7 pl8 er0 er1 er2 bk0 bk1 bk2 dr0 sh0 sh1 sh2 sh3 sh4 sh5 sh6 sh7 sh8 sp0 sp1 sp2 sp3 sp4 sp5 sp6 sp7 sp8) (n := 0) (st := []) (As := []) (w2 := wC G AD (AD 8 0) (AD 9 0) rd0 rd1 rd2 rd3 rd4 dy0 dy1 dy2 dy3 dy4 dy5 pa0 pa1 pa2 im0 im1 im2 pl0 pl1 pl2 pl3 pl4 pl5 pl6 pl7 pl8 er0 er1 er2 bk0 bk1 bk2 dr0 sh0 sh1 sh2 sh3 sh4 sh5 sh6 sh7 sh8 sp0 sp1 sp2 sp3 sp4 sp5 sp6 sp7 sp8) 0 (c_L8_X0_stands l G AD (AD 8 0) (AD 9 0) rd0 rd1 rd2 rd3 rd4 dy0 dy1 dy2 dy3 dy4 dy5 pa0 pa1 pa2 im0 im1 im2 pl0 pl1 pl2 pl3 pl4 pl5 pl6 pl7 pl8 er0 er1 er2 bk0 bk1 bk2 dr0 sh0 sh1 sh2 sh3 sh4 sh5 sh6 sh7 sh8 sp0 sp1 sp2 sp3 sp4 sp5 sp6 sp7 sp8) gX9_stays_X0_stands rfl (by decide +kernel) ⟨Nat.le_of_ble_eq_true rfl, Nat.le_of_ble_eq_true rfl⟩ 29 rfl rfl rfl rfl (Nat.le_of_ble_eq_true rfl) (Nat.zero_le _) (Nat.zero_le _) dX9_stays_21 ?_
      refine s_if_ne X (pc := 24) (tgt := 30) dX9_stays_24 (by decide) (fun c24 => ?_) (fun c24 => ?_)
      ·
        refine s_iconst X (pc := 30) (v := 0) dX9_stays_30 (by decide) ?_
        refine s_istore_n X (pc := 31) (i := 3) (lv2 := [(3, .int (0 : Int32)), (0, .ref (AD 10 0)), (1, .int p0), (2, .int p1)]) dX9_stays_31 rfl (by decide) rfl ?_
        refine s_perm (lv2 := [(0, .ref (AD 10 0)), (1, .int p0), (2, .int p1), (3, .int (0 : Int32))]) [1, 2, 3, 0] rfl ?_
        have L32 : ∀ (n32 k32 : Nat), k32 + n32 = 100 → rX9_stays dy5 sh0 sh6 p0 p1 = aX9_stays_32 dy5 sh0 sh6 p0 p1 n32 k32  → Sm p l e (rmL 2) s m args below meth c G A 4 0 0 (Qci below G A args s (rX9_stays dy5 sh0 sh6 p0 p1) (wC G AD (AD 8 0) (AD 9 0) rd0 rd1 rd2 rd3 rd4 dy0 dy1 dy2 dy3 dy4 dy5 pa0 pa1 pa2 im0 im1 im2 pl0 pl1 pl2 pl3 pl4 pl5 pl6 pl7 pl8 er0 er1 er2 bk0 bk1 bk2 dr0 sh0 sh1 sh2 sh3 sh4 sh5 sh6 sh7 sh8 sp0 sp1 sp2 sp3 sp4 sp5 sp6 sp7 sp8)) 32 [(0, .ref (AD 10 0)), (1, .int p0), (2, .int p1), (3, .int (nI k32))] [] (wC G AD (AD 8 0) (AD 9 0) rd0 rd1 rd2 rd3 rd4 dy0 dy1 dy2 dy3 dy4 dy5 pa0 pa1 pa2 im0 im1 im2 pl0 pl1 pl2 pl3 pl4 pl5 pl6 pl7 pl8 er0 er1 er2 bk0 bk1 bk2 dr0 sh0 sh1 sh2 sh3 sh4 sh5 sh6 sh7 sh8 sp0 sp1 sp2 sp3 sp4 sp5 sp6 sp7 sp8) := by
          intro n32
          induction n32 with
          | zero =>
            intro k32  hk32 hv32
            have hK32 : k32 = 100 := by omega
            have tk32 : (nI k32).toInt = ((k32 : Nat) : Int) := nI_toInt (by omega)
            have eN32 : ((100 : Int32)).toInt = ((100 : Nat) : Int) := rfl
            refine s_iload_n X (pc := 32) (x := nI k32) 3 dX9_stays_32 rfl ?_
            refine s_bipush X (pc := 33) (v := 100) dX9_stays_33 (by decide) ?_
            refine s_icmp_ge X (pc := 35) (tgt := 56) dX9_stays_35 (by decide) (fun c35 => ?_) (fun c35 => ?_)
            ·
              refine s_bipush X (pc := 56) (v := 100) dX9_stays_56 (by decide) ?_
              exact s_iret X (pc := 58) (v := (100 : Int32)) dX9_stays_58 (Eq.symm (show rX9_stays dy5 sh0 sh6 p0 p1 = (100 : Int32) from (hv32.trans (show aX9_stays_32 dy5 sh0 sh6 p0 p1 0 k32  = (100 : Int32) from by rw [aX9_stays_32])))) rfl
            ·
              exact absurd ((t_le eN32 tk32).mpr (by omega)) c35
          | succ n32 ih32 =>
            intro k32  hk32 hv32
            have hlt32 : k32 < 100 := by omega
            have tk32 : (nI k32).toInt = ((k32 : Nat) : Int) := nI_toInt (by omega)
            have eN32 : ((100 : Int32)).toInt = ((100 : Nat) : Int) := rfl
            refine s_iload_n X (pc := 32) (x := nI k32) 3 dX9_stays_32 rfl ?_
            refine s_bipush X (pc := 33) (v := 100) dX9_stays_33 (by decide) ?_
            refine s_icmp_ge X (pc := 35) (tgt := 56) dX9_stays_35 (by decide) (fun c35 => ?_) (fun c35 => ?_)
            ·
              exact absurd ((t_le eN32 tk32).mp c35) (by omega)
            ·
              refine s_aload_n X (pc := 38) (x := (AD 10 0)) 0 dX9_stays_38 rfl ?_
              refine s_iload_n X (pc := 39) (x := p0) 1 dX9_stays_39 rfl ?_
              refine s_iload_n X (pc := 40) (x := nI k32) 3 dX9_stays_40 rfl ?_
              refine s_callVi0 X (pc := 41) (r := rX9_depthBehind dy5 sh0 sh6 p0 (nI k32)) (w := wC G AD (AD 8 0) (AD 9 0) rd0 rd1 rd2 rd3 rd4 dy0 dy1 dy2 dy3 dy4 dy5 pa0 pa1 pa2 im0 im1 im2 pl0 pl1 pl2 pl3 pl4 pl5 pl6 pl7 pl8 er0 er1 er2 bk0 bk1 bk2 dr0 sh0 sh1 sh2 sh3 sh4 sh5 sh6 sh7 sh8 sp0 sp1 sp2 sp3 sp4 sp5 sp6 sp7 sp8) (n := 2) (st := []) (As := [.int p0, .int (nI k32)]) (w2 := wC G AD (AD 8 0) (AD 9 0) rd0 rd1 rd2 rd3 rd4 dy0 dy1 dy2 dy3 dy4 dy5 pa0 pa1 pa2 im0 im1 im2 pl0 pl1 pl2 pl3 pl4 pl5 pl6 pl7 pl8 er0 er1 er2 bk0 bk1 bk2 dr0 sh0 sh1 sh2 sh3 sh4 sh5 sh6 sh7 sh8 sp0 sp1 sp2 sp3 sp4 sp5 sp6 sp7 sp8) 1 (c_X9_depthBehind l G AD rd0 rd1 rd2 rd3 rd4 dy0 dy1 dy2 dy3 dy4 dy5 pa0 pa1 pa2 im0 im1 im2 pl0 pl1 pl2 pl3 pl4 pl5 pl6 pl7 pl8 er0 er1 er2 bk0 bk1 bk2 dr0 sh0 sh1 sh2 sh3 sh4 sh5 sh6 sh7 sh8 sp0 sp1 sp2 sp3 sp4 sp5 sp6 sp7 sp8 p0 (nI k32) t12) gX9_stays_X9_depthBehind rfl (by decide +kernel) ⟨Nat.le_of_ble_eq_true rfl, Nat.le_of_ble_eq_true rfl⟩ 0 rfl rfl rfl rfl (Nat.le_of_ble_eq_true rfl) (Nat.zero_le _) (Nat.zero_le _) dX9_stays_41 ?_
              refine s_iload_n X (pc := 44) (x := p1) 2 dX9_stays_44 rfl ?_
              refine s_icmp_le X (pc := 45) (tgt := 50) dX9_stays_45 (by decide) (fun c45 => ?_) (fun c45 => ?_)
              ·
                refine s_iinc X (pc := 50) (v := nI (k32 + 1)) (lv2 := [(3, .int (nI (k32 + 1))), (0, .ref (AD 10 0)), (1, .int p0), (2, .int p1)]) 3 dX9_stays_50 rfl (nI_1 _) (by decide) rfl ?_
                refine s_goto X (pc := 53) (tgt := 32) dX9_stays_53 (by decide) ?_
                refine s_perm (lv2 := [(0, .ref (AD 10 0)), (1, .int p0), (2, .int p1), (3, .int (nI (k32 + 1)))]) [1, 2, 3, 0] rfl ?_
                exact ih32 (k32 + 1)  (by omega) (hv32.trans (show aX9_stays_32 dy5 sh0 sh6 p0 p1 (n32 + 1) k32  = aX9_stays_32 dy5 sh0 sh6 p0 p1 n32 (k32 + 1)  from by rw [aX9_stays_32]; exact (if_pos c45)))
              ·
                refine s_iload_n X (pc := 48) (x := nI k32) 3 dX9_stays_48 rfl ?_
                exact s_iret X (pc := 49) (v := nI k32) dX9_stays_49 (Eq.symm (show rX9_stays dy5 sh0 sh6 p0 p1 = nI k32 from (hv32.trans (show aX9_stays_32 dy5 sh0 sh6 p0 p1 (n32 + 1) k32  = nI k32 from by rw [aX9_stays_32]; exact (if_neg c45))))) rfl
        exact L32 100 0  (Nat.zero_add _) (by unfold rX9_stays; exact ((if_pos c4).trans ((if_pos c11).trans (if_neg c24))))
      ·
        refine s_ldc X (pc := 27) (v := -1000000003) kX9_stays_c145 dX9_stays_27 ?_
        exact s_iret X (pc := 29) (v := (-1000000003 : Int32)) dX9_stays_29 (Eq.symm (show rX9_stays dy5 sh0 sh6 p0 p1 = (-1000000003 : Int32) from (by unfold rX9_stays; exact ((if_pos c4).trans ((if_pos c11).trans (if_pos c24)))))) rfl
    ·
      refine s_ldc X (pc := 14) (v := -1000000002) kX9_stays_c79 dX9_stays_14 ?_
      exact s_iret X (pc := 16) (v := (-1000000002 : Int32)) dX9_stays_16 (Eq.symm (show rX9_stays dy5 sh0 sh6 p0 p1 = (-1000000002 : Int32) from (by unfold rX9_stays; exact ((if_pos c4).trans (if_neg c11))))) rfl

theorem iX9_spot_X9 : ∀ z ∈ wsX90, z ∈ wsX9_spot := fun z h => List.mem_cons_of_mem _ (List.mem_append_left _ (List.mem_append_left _ (List.mem_append_right _ h)))
theorem kX9_spot_68 : Cond.fieldLink RX9 68 "BathingCourt" (TX9 8).2.1 (TX9 8).2.2.1 ∈ wsX9_spot := List.mem_of_getElem? (i := 2) rfl
theorem kX9_spot_c145 : Jvm.Cond.constant RX9 145 (-1000000003) ∈ wsX9_spot := List.mem_of_getElem? (i := 3) rfl
theorem kX9_spot_c79 : Jvm.Cond.constant RX9 79 (-1000000002) ∈ wsX9_spot := List.mem_of_getElem? (i := 1) rfl
def aX9_spot_25 (dy5 : Int32) (sh0 : Nat → Int32) (sh6 p0 : Int32) : Nat → Nat → Int32
  | 0, k25 => (-1 : Int32)
  | n25 + 1, k25 => if (rX9_depthBehind dy5 sh0 sh6 (nI k25) (0 : Int32)) = p0 then (nI k25) else (aX9_spot_25 dy5 sh0 sh6 p0 n25 (k25 + 1))
def rX9_spot (dy5 : Int32) (sh0 : Nat → Int32) (sh6 p0 : Int32) : Int32 := if (rX9_isNoDepth p0) = 0 then (if (rX0_stands sh6) = 0 then (-1000000003 : Int32) else (aX9_spot_25 dy5 sh0 sh6 p0 10 0)) else (-1000000002 : Int32)
set_option maxRecDepth 100000 in
set_option maxHeartbeats 4000000 in
theorem c_X9_spot (l : Launch) (G : GT) (AD : Nat → Nat → Nat) (rd0 : Nat → Int32) (rd1 rd2 rd3 rd4 : Int32) (dy0 dy1 dy2 dy3 dy4 : Nat → Int32) (dy5 : Int32) (pa0 : Nat → Int32) (pa1 pa2 : Int32) (im0 im1 im2 pl0 pl1 pl2 pl3 pl4 pl5 : Nat → Int32) (pl6 pl7 pl8 : Int32) (er0 er1 : Nat → Int32) (er2 : Int32) (bk0 bk1 : Nat → Int32) (bk2 dr0 : Int32) (sh0 sh1 sh2 sh3 sh4 sh5 : Nat → Int32) (sh6 sh7 sh8 : Int32) (sp0 sp1 sp2 sp3 sp4 sp5 : Nat → Int32) (sp6 sp7 sp8 p0 : Int32) (t12 : sh6 ≤ 12) : Ci l G yX9_spot wsX9_spot (rmL 2) [.ref (AD 10 0), .int p0] (wC G AD (AD 8 0) (AD 9 0) rd0 rd1 rd2 rd3 rd4 dy0 dy1 dy2 dy3 dy4 dy5 pa0 pa1 pa2 im0 im1 im2 pl0 pl1 pl2 pl3 pl4 pl5 pl6 pl7 pl8 er0 er1 er2 bk0 bk1 bk2 dr0 sh0 sh1 sh2 sh3 sh4 sh5 sh6 sh7 sh8 sp0 sp1 sp2 sp3 sp4 sp5 sp6 sp7 sp8) (rX9_spot dy5 sh0 sh6 p0) (wC G AD (AD 8 0) (AD 9 0) rd0 rd1 rd2 rd3 rd4 dy0 dy1 dy2 dy3 dy4 dy5 pa0 pa1 pa2 im0 im1 im2 pl0 pl1 pl2 pl3 pl4 pl5 pl6 pl7 pl8 er0 er1 er2 bk0 bk1 bk2 dr0 sh0 sh1 sh2 sh3 sh4 sh5 sh6 sh7 sh8 sp0 sp1 sp2 sp3 sp4 sp5 sp6 sp7 sp8) := by
  refine ci_start .int (by decide) rfl rfl (Nat.le_of_ble_eq_true rfl) ?_
  intro p e s m args below meth c A X
  refine s_perm (lv2 := [(0, .ref (AD 10 0)), (1, .int p0)]) [0, 1] rfl ?_
  refine s_iload_n X (pc := 0) (x := p0) 1 dX9_spot_0 rfl ?_
  refine s_callSiN X (pc := 1) (r := rX9_isNoDepth p0) (n := 1) (st := []) (As := [.int p0]) 1 (c_X9_isNoDepth l G p0) gX9_spot_X9_isNoDepth rfl (by decide +kernel) ⟨Nat.le_of_ble_eq_true rfl, Nat.le_of_ble_eq_true rfl⟩ rfl rfl (Nat.le_of_ble_eq_true rfl) (Nat.zero_le _) (Nat.zero_le _) dX9_spot_1 ?_
  refine s_if_eq X (pc := 4) (tgt := 10) dX9_spot_4 (by decide) (fun c4 => ?_) (fun c4 => ?_)
  ·
    refine s_aload_n X (pc := 10) (x := (AD 10 0)) 0 dX9_spot_10 rfl ?_
    refine s_get X (pc := 11) (v := .ref (AD 8 0)) iX9_spot_X9 0 rfl rfl 8 (by decide) kX9_spot_68 rfl rfl dX9_spot_11 ?_
    refine s_callVi0 X (pc := 14) (r := rX0_stands sh6) (w := wC G AD (AD 8 0) (AD 9 0) rd0 rd1 rd2 rd3 rd4 dy0 dy1 dy2 dy3 dy4 dy5 pa0 pa1 pa2 im0 im1 im2 pl0 pl1 pl2 pl3 pl4 pl5 pl6 pl7 pl8 er0 er1 er2 bk0 bk1 bk2 dr0 sh0 sh1 sh2 sh3 sh4 sh5 sh6 sh7 sh8 sp0 sp1 sp2 sp3 sp4 sp5 sp6 sp7 sp8) (n := 0) (st := []) (As := []) (w2 := wC G AD (AD 8 0) (AD 9 0) rd0 rd1 rd2 rd3 rd4 dy0 dy1 dy2 dy3 dy4 dy5 pa0 pa1 pa2 im0 im1 im2 pl0 pl1 pl2 pl3 pl4 pl5 pl6 pl7 pl8 er0 er1 er2 bk0 bk1 bk2 dr0 sh0 sh1 sh2 sh3 sh4 sh5 sh6 sh7 sh8 sp0 sp1 sp2 sp3 sp4 sp5 sp6 sp7 sp8) 0 (c_L8_X0_stands l G AD (AD 8 0) (AD 9 0) rd0 rd1 rd2 rd3 rd4 dy0 dy1 dy2 dy3 dy4 dy5 pa0 pa1 pa2 im0 im1 im2 pl0 pl1 pl2 pl3 pl4 pl5 pl6 pl7 pl8 er0 er1 er2 bk0 bk1 bk2 dr0 sh0 sh1 sh2 sh3 sh4 sh5 sh6 sh7 sh8 sp0 sp1 sp2 sp3 sp4 sp5 sp6 sp7 sp8) gX9_spot_X0_stands rfl (by decide +kernel) ⟨Nat.le_of_ble_eq_true rfl, Nat.le_of_ble_eq_true rfl⟩ 29 rfl rfl rfl rfl (Nat.le_of_ble_eq_true rfl) (Nat.zero_le _) (Nat.zero_le _) dX9_spot_14 ?_
    refine s_if_ne X (pc := 17) (tgt := 23) dX9_spot_17 (by decide) (fun c17 => ?_) (fun c17 => ?_)
    ·
      refine s_iconst X (pc := 23) (v := 0) dX9_spot_23 (by decide) ?_
      refine s_istore_n X (pc := 24) (i := 2) (lv2 := [(2, .int (0 : Int32)), (0, .ref (AD 10 0)), (1, .int p0)]) dX9_spot_24 rfl (by decide) rfl ?_
      refine s_perm (lv2 := [(0, .ref (AD 10 0)), (1, .int p0), (2, .int (0 : Int32))]) [1, 2, 0] rfl ?_
      have L25 : ∀ (n25 k25 : Nat), k25 + n25 = 10 → rX9_spot dy5 sh0 sh6 p0 = aX9_spot_25 dy5 sh0 sh6 p0 n25 k25  → Sm p l e (rmL 2) s m args below meth c G A 3 0 0 (Qci below G A args s (rX9_spot dy5 sh0 sh6 p0) (wC G AD (AD 8 0) (AD 9 0) rd0 rd1 rd2 rd3 rd4 dy0 dy1 dy2 dy3 dy4 dy5 pa0 pa1 pa2 im0 im1 im2 pl0 pl1 pl2 pl3 pl4 pl5 pl6 pl7 pl8 er0 er1 er2 bk0 bk1 bk2 dr0 sh0 sh1 sh2 sh3 sh4 sh5 sh6 sh7 sh8 sp0 sp1 sp2 sp3 sp4 sp5 sp6 sp7 sp8)) 25 [(0, .ref (AD 10 0)), (1, .int p0), (2, .int (nI k25))] [] (wC G AD (AD 8 0) (AD 9 0) rd0 rd1 rd2 rd3 rd4 dy0 dy1 dy2 dy3 dy4 dy5 pa0 pa1 pa2 im0 im1 im2 pl0 pl1 pl2 pl3 pl4 pl5 pl6 pl7 pl8 er0 er1 er2 bk0 bk1 bk2 dr0 sh0 sh1 sh2 sh3 sh4 sh5 sh6 sh7 sh8 sp0 sp1 sp2 sp3 sp4 sp5 sp6 sp7 sp8) := by
        intro n25
        induction n25 with
        | zero =>
          intro k25  hk25 hv25
          have hK25 : k25 = 10 := by omega
          have tk25 : (nI k25).toInt = ((k25 : Nat) : Int) := nI_toInt (by omega)
          have eN25 : ((10 : Int32)).toInt = ((10 : Nat) : Int) := rfl
          refine s_iload_n X (pc := 25) (x := nI k25) 2 dX9_spot_25 rfl ?_
          refine s_bipush X (pc := 26) (v := 10) dX9_spot_26 (by decide) ?_
          refine s_icmp_ge X (pc := 28) (tgt := 49) dX9_spot_28 (by decide) (fun c28 => ?_) (fun c28 => ?_)
          ·
            refine s_iconst X (pc := 49) (v := -1) dX9_spot_49 (by decide) ?_
            exact s_iret X (pc := 50) (v := (-1 : Int32)) dX9_spot_50 (Eq.symm (show rX9_spot dy5 sh0 sh6 p0 = (-1 : Int32) from (hv25.trans (show aX9_spot_25 dy5 sh0 sh6 p0 0 k25  = (-1 : Int32) from by rw [aX9_spot_25])))) rfl
          ·
            exact absurd ((t_le eN25 tk25).mpr (by omega)) c28
        | succ n25 ih25 =>
          intro k25  hk25 hv25
          have hlt25 : k25 < 10 := by omega
          have tk25 : (nI k25).toInt = ((k25 : Nat) : Int) := nI_toInt (by omega)
          have eN25 : ((10 : Int32)).toInt = ((10 : Nat) : Int) := rfl
          refine s_iload_n X (pc := 25) (x := nI k25) 2 dX9_spot_25 rfl ?_
          refine s_bipush X (pc := 26) (v := 10) dX9_spot_26 (by decide) ?_
          refine s_icmp_ge X (pc := 28) (tgt := 49) dX9_spot_28 (by decide) (fun c28 => ?_) (fun c28 => ?_)
          ·
            exact absurd ((t_le eN25 tk25).mp c28) (by omega)
          ·
            refine s_aload_n X (pc := 31) (x := (AD 10 0)) 0 dX9_spot_31 rfl ?_
            refine s_iload_n X (pc := 32) (x := nI k25) 2 dX9_spot_32 rfl ?_
            refine s_iconst X (pc := 33) (v := 0) dX9_spot_33 (by decide) ?_
            refine s_callVi0 X (pc := 34) (r := rX9_depthBehind dy5 sh0 sh6 (nI k25) (0 : Int32)) (w := wC G AD (AD 8 0) (AD 9 0) rd0 rd1 rd2 rd3 rd4 dy0 dy1 dy2 dy3 dy4 dy5 pa0 pa1 pa2 im0 im1 im2 pl0 pl1 pl2 pl3 pl4 pl5 pl6 pl7 pl8 er0 er1 er2 bk0 bk1 bk2 dr0 sh0 sh1 sh2 sh3 sh4 sh5 sh6 sh7 sh8 sp0 sp1 sp2 sp3 sp4 sp5 sp6 sp7 sp8) (n := 2) (st := []) (As := [.int (nI k25), .int (0 : Int32)]) (w2 := wC G AD (AD 8 0) (AD 9 0) rd0 rd1 rd2 rd3 rd4 dy0 dy1 dy2 dy3 dy4 dy5 pa0 pa1 pa2 im0 im1 im2 pl0 pl1 pl2 pl3 pl4 pl5 pl6 pl7 pl8 er0 er1 er2 bk0 bk1 bk2 dr0 sh0 sh1 sh2 sh3 sh4 sh5 sh6 sh7 sh8 sp0 sp1 sp2 sp3 sp4 sp5 sp6 sp7 sp8) 1 (c_X9_depthBehind l G AD rd0 rd1 rd2 rd3 rd4 dy0 dy1 dy2 dy3 dy4 dy5 pa0 pa1 pa2 im0 im1 im2 pl0 pl1 pl2 pl3 pl4 pl5 pl6 pl7 pl8 er0 er1 er2 bk0 bk1 bk2 dr0 sh0 sh1 sh2 sh3 sh4 sh5 sh6 sh7 sh8 sp0 sp1 sp2 sp3 sp4 sp5 sp6 sp7 sp8 (nI k25) (0 : Int32) t12) gX9_spot_X9_depthBehind rfl (by decide +kernel) ⟨Nat.le_of_ble_eq_true rfl, Nat.le_of_ble_eq_true rfl⟩ 0 rfl rfl rfl rfl (Nat.le_of_ble_eq_true rfl) (Nat.zero_le _) (Nat.zero_le _) dX9_spot_34 ?_
            refine s_iload_n X (pc := 37) (x := p0) 1 dX9_spot_37 rfl ?_
            refine s_icmp_ne X (pc := 38) (tgt := 43) dX9_spot_38 (by decide) (fun c38 => ?_) (fun c38 => ?_)
            ·
              refine s_iinc X (pc := 43) (v := nI (k25 + 1)) (lv2 := [(2, .int (nI (k25 + 1))), (0, .ref (AD 10 0)), (1, .int p0)]) 2 dX9_spot_43 rfl (nI_1 _) (by decide) rfl ?_
              refine s_goto X (pc := 46) (tgt := 25) dX9_spot_46 (by decide) ?_
              refine s_perm (lv2 := [(0, .ref (AD 10 0)), (1, .int p0), (2, .int (nI (k25 + 1)))]) [1, 2, 0] rfl ?_
              exact ih25 (k25 + 1)  (by omega) (hv25.trans (show aX9_spot_25 dy5 sh0 sh6 p0 (n25 + 1) k25  = aX9_spot_25 dy5 sh0 sh6 p0 n25 (k25 + 1)  from by rw [aX9_spot_25]; exact (if_neg c38)))
            ·
              refine s_iload_n X (pc := 41) (x := nI k25) 2 dX9_spot_41 rfl ?_
              exact s_iret X (pc := 42) (v := nI k25) dX9_spot_42 (Eq.symm (show rX9_spot dy5 sh0 sh6 p0 = nI k25 from (hv25.trans (show aX9_spot_25 dy5 sh0 sh6 p0 (n25 + 1) k25  = nI k25 from by rw [aX9_spot_25]; exact (if_pos c38))))) rfl
      exact L25 10 0  (Nat.zero_add _) (by unfold rX9_spot; exact ((if_pos c4).trans (if_neg c17)))
    ·
      refine s_ldc X (pc := 20) (v := -1000000003) kX9_spot_c145 dX9_spot_20 ?_
      exact s_iret X (pc := 22) (v := (-1000000003 : Int32)) dX9_spot_22 (Eq.symm (show rX9_spot dy5 sh0 sh6 p0 = (-1000000003 : Int32) from (by unfold rX9_spot; exact ((if_pos c4).trans (if_pos c17))))) rfl
  ·
    refine s_ldc X (pc := 7) (v := -1000000002) kX9_spot_c79 dX9_spot_7 ?_
    exact s_iret X (pc := 9) (v := (-1000000002 : Int32)) dX9_spot_9 (Eq.symm (show rX9_spot dy5 sh0 sh6 p0 = (-1000000002 : Int32) from (by unfold rX9_spot; exact (if_neg c4)))) rfl

theorem iX9_soonest_X0 : ∀ z ∈ wsX00, z ∈ wsX9_soonest := fun z h => List.mem_cons_of_mem _ (List.mem_append_right _ h)
theorem iX9_soonest_X2 : ∀ z ∈ wsX20, z ∈ wsX9_soonest := fun z h => List.mem_cons_of_mem _ (List.mem_append_left _ (List.mem_append_right _ h))
theorem iX9_soonest_X9 : ∀ z ∈ wsX90, z ∈ wsX9_soonest := fun z h => List.mem_cons_of_mem _ (List.mem_append_left _ (List.mem_append_left _ (List.mem_append_right _ h)))
theorem kX9_soonest_68 : Cond.fieldLink RX9 68 "BathingCourt" (TX9 8).2.1 (TX9 8).2.2.1 ∈ wsX9_soonest := List.mem_of_getElem? (i := 1) rfl
theorem kX9_soonest_c152 : Jvm.Cond.constant RX9 152 (-1000000001) ∈ wsX9_soonest := List.mem_of_getElem? (i := 2) rfl
theorem kX9_soonest_19 : Cond.fieldLink RX9 19 "BathingCourt" (TX9 1).2.1 (TX9 1).2.2.1 ∈ wsX9_soonest := List.mem_of_getElem? (i := 3) rfl
theorem kX9_soonest_157 : Cond.fieldLink RX9 157 "BathingCourt$Day" (TX2 0).2.1 (TX2 0).2.2.1 ∈ wsX9_soonest := List.mem_of_getElem? (i := 4) rfl
theorem kX9_soonest_153 : Cond.fieldLink RX9 153 "BathingCourt$Beach" (TX0 1).2.1 (TX0 1).2.2.1 ∈ wsX9_soonest := List.mem_of_getElem? (i := 5) rfl
theorem kX9_soonest_163 : Cond.fieldLink RX9 163 "BathingCourt$Day" (TX2 2).2.1 (TX2 2).2.2.1 ∈ wsX9_soonest := List.mem_of_getElem? (i := 6) rfl
theorem kX9_soonest_117 : Cond.fieldLink RX9 117 "BathingCourt$Day" (TX2 5).2.1 (TX2 5).2.2.1 ∈ wsX9_soonest := List.mem_of_getElem? (i := 7) rfl
def aX9_soonest_69 (dy0 : Nat → Int32) (dy5 : Int32) (sh0 sh1 sh2 sh4 : Nat → Int32) (sh6 p0 p1 : Int32) : Nat → Nat → Int32 → Int32
  | 0, k69, v69_0 => (-1 : Int32)
  | n69 + 1, k69, v69_0 => if (rX0_suitsWithin sh0 sh2 sh4 sh6 p1 ((dy0 p0.toNatClampNeg) - v69_0) ((dy0 p0.toNatClampNeg) + v69_0) (dy5 + (nI k69))) = 0 then (aX9_soonest_69 dy0 dy5 sh0 sh1 sh2 sh4 sh6 p0 p1 n69 (k69 + 1) (v69_0 + (sh1 p0.toNatClampNeg))) else (nI k69)
def rX9_soonest (dy0 dy2 : Nat → Int32) (dy5 : Int32) (sh0 sh1 sh2 sh4 : Nat → Int32) (sh6 sh7 sh8 p0 p1 : Int32) : Int32 := if (rX0_hasHut sh7 p0) = 0 then (-1000000001 : Int32) else (if (rX0_hasCase sh8 p1) = 0 then (-1000000001 : Int32) else (if (dy2 p0.toNatClampNeg) = 0 then (aX9_soonest_69 dy0 dy5 sh0 sh1 sh2 sh4 sh6 p0 p1 31 0 (sh1 p0.toNatClampNeg)) else (aX9_soonest_69 dy0 dy5 sh0 sh1 sh2 sh4 sh6 p0 p1 31 0 (0 : Int32))))
set_option maxRecDepth 100000 in
set_option maxHeartbeats 4000000 in
theorem c_X9_soonest (l : Launch) (G : GT) (AD : Nat → Nat → Nat) (rd0 : Nat → Int32) (rd1 rd2 rd3 rd4 : Int32) (dy0 dy1 dy2 dy3 dy4 : Nat → Int32) (dy5 : Int32) (pa0 : Nat → Int32) (pa1 pa2 : Int32) (im0 im1 im2 pl0 pl1 pl2 pl3 pl4 pl5 : Nat → Int32) (pl6 pl7 pl8 : Int32) (er0 er1 : Nat → Int32) (er2 : Int32) (bk0 bk1 : Nat → Int32) (bk2 dr0 : Int32) (sh0 sh1 sh2 sh3 sh4 sh5 : Nat → Int32) (sh6 sh7 sh8 : Int32) (sp0 sp1 sp2 sp3 sp4 sp5 : Nat → Int32) (sp6 sp7 sp8 p0 p1 : Int32) (h0 : 0 ≤ sh7) (h4 : sh7 ≤ 4) (ca : 0 ≤ sh8) (cb : sh8 ≤ 5) (t12 : sh6 ≤ 12) : Ci l G yX9_soonest wsX9_soonest (rmL 2) [.ref (AD 10 0), .int p0, .int p1] (wC G AD (AD 8 0) (AD 9 0) rd0 rd1 rd2 rd3 rd4 dy0 dy1 dy2 dy3 dy4 dy5 pa0 pa1 pa2 im0 im1 im2 pl0 pl1 pl2 pl3 pl4 pl5 pl6 pl7 pl8 er0 er1 er2 bk0 bk1 bk2 dr0 sh0 sh1 sh2 sh3 sh4 sh5 sh6 sh7 sh8 sp0 sp1 sp2 sp3 sp4 sp5 sp6 sp7 sp8) (rX9_soonest dy0 dy2 dy5 sh0 sh1 sh2 sh4 sh6 sh7 sh8 p0 p1) (wC G AD (AD 8 0) (AD 9 0) rd0 rd1 rd2 rd3 rd4 dy0 dy1 dy2 dy3 dy4 dy5 pa0 pa1 pa2 im0 im1 im2 pl0 pl1 pl2 pl3 pl4 pl5 pl6 pl7 pl8 er0 er1 er2 bk0 bk1 bk2 dr0 sh0 sh1 sh2 sh3 sh4 sh5 sh6 sh7 sh8 sp0 sp1 sp2 sp3 sp4 sp5 sp6 sp7 sp8) := by
  refine ci_start .int (by decide) rfl rfl (Nat.le_of_ble_eq_true rfl) ?_
  intro p e s m args below meth c A X
  refine s_perm (lv2 := [(0, .ref (AD 10 0)), (1, .int p0), (2, .int p1)]) [0, 1, 2] rfl ?_
  refine s_aload_n X (pc := 0) (x := (AD 10 0)) 0 dX9_soonest_0 rfl ?_
  refine s_get X (pc := 1) (v := .ref (AD 8 0)) iX9_soonest_X9 0 rfl rfl 8 (by decide) kX9_soonest_68 rfl rfl dX9_soonest_1 ?_
  refine s_iload_n X (pc := 4) (x := p0) 1 dX9_soonest_4 rfl ?_
  refine s_callVi0 X (pc := 5) (r := rX0_hasHut sh7 p0) (w := wC G AD (AD 8 0) (AD 9 0) rd0 rd1 rd2 rd3 rd4 dy0 dy1 dy2 dy3 dy4 dy5 pa0 pa1 pa2 im0 im1 im2 pl0 pl1 pl2 pl3 pl4 pl5 pl6 pl7 pl8 er0 er1 er2 bk0 bk1 bk2 dr0 sh0 sh1 sh2 sh3 sh4 sh5 sh6 sh7 sh8 sp0 sp1 sp2 sp3 sp4 sp5 sp6 sp7 sp8) (n := 1) (st := []) (As := [.int p0]) (w2 := wC G AD (AD 8 0) (AD 9 0) rd0 rd1 rd2 rd3 rd4 dy0 dy1 dy2 dy3 dy4 dy5 pa0 pa1 pa2 im0 im1 im2 pl0 pl1 pl2 pl3 pl4 pl5 pl6 pl7 pl8 er0 er1 er2 bk0 bk1 bk2 dr0 sh0 sh1 sh2 sh3 sh4 sh5 sh6 sh7 sh8 sp0 sp1 sp2 sp3 sp4 sp5 sp6 sp7 sp8) 0 (c_L8_X0_hasHut l G AD (AD 8 0) (AD 9 0) rd0 rd1 rd2 rd3 rd4 dy0 dy1 dy2 dy3 dy4 dy5 pa0 pa1 pa2 im0 im1 im2 pl0 pl1 pl2 pl3 pl4 pl5 pl6 pl7 pl8 er0 er1 er2 bk0 bk1 bk2 dr0 sh0 sh1 sh2 sh3 sh4 sh5 sh6 sh7 sh8 sp0 sp1 sp2 sp3 sp4 sp5 sp6 sp7 sp8 p0) gX9_soonest_X0_hasHut rfl (by decide +kernel) ⟨Nat.le_of_ble_eq_true rfl, Nat.le_of_ble_eq_true rfl⟩ 29 rfl rfl rfl rfl (Nat.le_of_ble_eq_true rfl) (Nat.zero_le _) (Nat.zero_le _) dX9_soonest_5 ?_
  refine s_if_eq X (pc := 8) (tgt := 22) dX9_soonest_8 (by decide) (fun c8 => ?_) (fun c8 => ?_)
  ·
    refine s_ldc X (pc := 22) (v := -1000000001) kX9_soonest_c152 dX9_soonest_22 ?_
    exact s_iret X (pc := 24) (v := (-1000000001 : Int32)) dX9_soonest_24 (Eq.symm (show rX9_soonest dy0 dy2 dy5 sh0 sh1 sh2 sh4 sh6 sh7 sh8 p0 p1 = (-1000000001 : Int32) from (by unfold rX9_soonest; exact (if_pos c8)))) rfl
  ·
    have q8 := hasHut_i c8
    have v8 : vp_in _ 4 := vin (b := 4) rfl q8.1 (Int32.lt_of_lt_of_le q8.2 h4)
    refine s_aload_n X (pc := 11) (x := (AD 10 0)) 0 dX9_soonest_11 rfl ?_
    refine s_get X (pc := 12) (v := .ref (AD 8 0)) iX9_soonest_X9 0 rfl rfl 8 (by decide) kX9_soonest_68 rfl rfl dX9_soonest_12 ?_
    refine s_iload_n X (pc := 15) (x := p1) 2 dX9_soonest_15 rfl ?_
    refine s_callVi0 X (pc := 16) (r := rX0_hasCase sh8 p1) (w := wC G AD (AD 8 0) (AD 9 0) rd0 rd1 rd2 rd3 rd4 dy0 dy1 dy2 dy3 dy4 dy5 pa0 pa1 pa2 im0 im1 im2 pl0 pl1 pl2 pl3 pl4 pl5 pl6 pl7 pl8 er0 er1 er2 bk0 bk1 bk2 dr0 sh0 sh1 sh2 sh3 sh4 sh5 sh6 sh7 sh8 sp0 sp1 sp2 sp3 sp4 sp5 sp6 sp7 sp8) (n := 1) (st := []) (As := [.int p1]) (w2 := wC G AD (AD 8 0) (AD 9 0) rd0 rd1 rd2 rd3 rd4 dy0 dy1 dy2 dy3 dy4 dy5 pa0 pa1 pa2 im0 im1 im2 pl0 pl1 pl2 pl3 pl4 pl5 pl6 pl7 pl8 er0 er1 er2 bk0 bk1 bk2 dr0 sh0 sh1 sh2 sh3 sh4 sh5 sh6 sh7 sh8 sp0 sp1 sp2 sp3 sp4 sp5 sp6 sp7 sp8) 0 (c_L8_X0_hasCase l G AD (AD 8 0) (AD 9 0) rd0 rd1 rd2 rd3 rd4 dy0 dy1 dy2 dy3 dy4 dy5 pa0 pa1 pa2 im0 im1 im2 pl0 pl1 pl2 pl3 pl4 pl5 pl6 pl7 pl8 er0 er1 er2 bk0 bk1 bk2 dr0 sh0 sh1 sh2 sh3 sh4 sh5 sh6 sh7 sh8 sp0 sp1 sp2 sp3 sp4 sp5 sp6 sp7 sp8 p1) gX9_soonest_X0_hasCase rfl (by decide +kernel) ⟨Nat.le_of_ble_eq_true rfl, Nat.le_of_ble_eq_true rfl⟩ 29 rfl rfl rfl rfl (Nat.le_of_ble_eq_true rfl) (Nat.zero_le _) (Nat.zero_le _) dX9_soonest_16 ?_
    refine s_if_ne X (pc := 19) (tgt := 25) dX9_soonest_19 (by decide) (fun c19 => ?_) (fun c19 => ?_)
    ·
      have q19 := hasCase_i c19
      have v19 : vp_in _ 5 := vin (b := 5) rfl q19.1 (Int32.lt_of_lt_of_le q19.2 cb)
      refine s_aload_n X (pc := 25) (x := (AD 10 0)) 0 dX9_soonest_25 rfl ?_
      refine s_get X (pc := 26) (v := .ref (AD 1 0)) iX9_soonest_X9 0 rfl rfl 1 (by decide) kX9_soonest_19 rfl rfl dX9_soonest_26 ?_
      refine s_get X (pc := 29) (v := .ref ((AD 1) 1)) iX9_soonest_X2 3 rfl rfl 0 (by decide) kX9_soonest_157 rfl rfl dX9_soonest_29 ?_
      refine s_iload_n X (pc := 32) (x := p0) 1 dX9_soonest_32 rfl ?_
      refine s_iald X (pc := 33) (n := 4) (f := dy0) 4 rfl v8 dX9_soonest_33 ?_
      refine s_istore_n X (pc := 34) (i := 3) (lv2 := [(3, .int (dy0 p0.toNatClampNeg)), (0, .ref (AD 10 0)), (1, .int p0), (2, .int p1)]) dX9_soonest_34 rfl (by decide) rfl ?_
      refine s_aload_n X (pc := 35) (x := (AD 10 0)) 1 dX9_soonest_35 rfl ?_
      refine s_get X (pc := 36) (v := .ref (AD 8 0)) iX9_soonest_X9 0 rfl rfl 8 (by decide) kX9_soonest_68 rfl rfl dX9_soonest_36 ?_
      refine s_get X (pc := 39) (v := .ref ((AD 8) 2)) iX9_soonest_X0 29 rfl rfl 1 (by decide) kX9_soonest_153 rfl rfl dX9_soonest_39 ?_
      refine s_iload_n X (pc := 42) (x := p0) 2 dX9_soonest_42 rfl ?_
      refine s_iald X (pc := 43) (n := 4) (f := sh1) 31 rfl v8 dX9_soonest_43 ?_
      refine s_istore X (pc := 44) (i := 4) (lv2 := [(4, .int (sh1 p0.toNatClampNeg)), (3, .int (dy0 p0.toNatClampNeg)), (0, .ref (AD 10 0)), (1, .int p0), (2, .int p1)]) dX9_soonest_44 (by decide) rfl ?_
      refine s_aload_n X (pc := 46) (x := (AD 10 0)) 2 dX9_soonest_46 rfl ?_
      refine s_get X (pc := 47) (v := .ref (AD 1 0)) iX9_soonest_X9 0 rfl rfl 1 (by decide) kX9_soonest_19 rfl rfl dX9_soonest_47 ?_
      refine s_get X (pc := 50) (v := .ref ((AD 1) 3)) iX9_soonest_X2 3 rfl rfl 2 (by decide) kX9_soonest_163 rfl rfl dX9_soonest_50 ?_
      refine s_iload_n X (pc := 53) (x := p0) 3 dX9_soonest_53 rfl ?_
      refine s_iald X (pc := 54) (n := 4) (f := dy2) 6 rfl v8 dX9_soonest_54 ?_
      refine s_if_ne X (pc := 55) (tgt := 63) dX9_soonest_55 (by decide) (fun c55 => ?_) (fun c55 => ?_)
      ·
        refine s_iconst X (pc := 63) (v := 0) dX9_soonest_63 (by decide) ?_
        refine s_istore X (pc := 64) (i := 5) (lv2 := [(5, .int (0 : Int32)), (4, .int (sh1 p0.toNatClampNeg)), (3, .int (dy0 p0.toNatClampNeg)), (0, .ref (AD 10 0)), (1, .int p0), (2, .int p1)]) dX9_soonest_64 (by decide) rfl ?_
        refine s_iconst X (pc := 66) (v := 0) dX9_soonest_66 (by decide) ?_
        refine s_istore X (pc := 67) (i := 6) (lv2 := [(6, .int (0 : Int32)), (5, .int (0 : Int32)), (4, .int (sh1 p0.toNatClampNeg)), (3, .int (dy0 p0.toNatClampNeg)), (0, .ref (AD 10 0)), (1, .int p0), (2, .int p1)]) dX9_soonest_67 (by decide) rfl ?_
        refine s_perm (lv2 := [(0, .ref (AD 10 0)), (1, .int p0), (2, .int p1), (3, .int (dy0 p0.toNatClampNeg)), (4, .int (sh1 p0.toNatClampNeg)), (5, .int (0 : Int32)), (6, .int (0 : Int32))]) [4, 5, 6, 3, 2, 1, 0] rfl ?_
        have L69 : ∀ (n69 k69 : Nat) (v69_0 : Int32), k69 + n69 = 31 → rX9_soonest dy0 dy2 dy5 sh0 sh1 sh2 sh4 sh6 sh7 sh8 p0 p1 = aX9_soonest_69 dy0 dy5 sh0 sh1 sh2 sh4 sh6 p0 p1 n69 k69 v69_0 → Sm p l e (rmL 2) s m args below meth c G A 7 0 0 (Qci below G A args s (rX9_soonest dy0 dy2 dy5 sh0 sh1 sh2 sh4 sh6 sh7 sh8 p0 p1) (wC G AD (AD 8 0) (AD 9 0) rd0 rd1 rd2 rd3 rd4 dy0 dy1 dy2 dy3 dy4 dy5 pa0 pa1 pa2 im0 im1 im2 pl0 pl1 pl2 pl3 pl4 pl5 pl6 pl7 pl8 er0 er1 er2 bk0 bk1 bk2 dr0 sh0 sh1 sh2 sh3 sh4 sh5 sh6 sh7 sh8 sp0 sp1 sp2 sp3 sp4 sp5 sp6 sp7 sp8)) 69 [(0, .ref (AD 10 0)), (1, .int p0), (2, .int p1), (3, .int (dy0 p0.toNatClampNeg)), (4, .int (sh1 p0.toNatClampNeg)), (5, .int v69_0), (6, .int (nI k69))] [] (wC G AD (AD 8 0) (AD 9 0) rd0 rd1 rd2 rd3 rd4 dy0 dy1 dy2 dy3 dy4 dy5 pa0 pa1 pa2 im0 im1 im2 pl0 pl1 pl2 pl3 pl4 pl5 pl6 pl7 pl8 er0 er1 er2 bk0 bk1 bk2 dr0 sh0 sh1 sh2 sh3 sh4 sh5 sh6 sh7 sh8 sp0 sp1 sp2 sp3 sp4 sp5 sp6 sp7 sp8) := by
          intro n69
          induction n69 with
          | zero =>
            intro k69 v69_0 hk69 hv69
            have hK69 : k69 = 31 := by omega
            have tk69 : (nI k69).toInt = ((k69 : Nat) : Int) := nI_toInt (by omega)
            have eN69 : ((30 : Int32)).toInt = 30 := rfl
            refine s_iload X (pc := 69) (x := nI k69) 6 dX9_soonest_69 rfl ?_
            refine s_bipush X (pc := 71) (v := 30) dX9_soonest_71 (by decide) ?_
            refine s_icmp_gt X (pc := 73) (tgt := 121) dX9_soonest_73 (by decide) (fun c73 => ?_) (fun c73 => ?_)
            ·
              refine s_iconst X (pc := 121) (v := -1) dX9_soonest_121 (by decide) ?_
              exact s_iret X (pc := 122) (v := (-1 : Int32)) dX9_soonest_122 (Eq.symm (show rX9_soonest dy0 dy2 dy5 sh0 sh1 sh2 sh4 sh6 sh7 sh8 p0 p1 = (-1 : Int32) from (hv69.trans (show aX9_soonest_69 dy0 dy5 sh0 sh1 sh2 sh4 sh6 p0 p1 0 k69 v69_0 = (-1 : Int32) from by rw [aX9_soonest_69])))) rfl
            ·
              exact absurd ((t_lt eN69 tk69).mpr (by omega)) c73
          | succ n69 ih69 =>
            intro k69 v69_0 hk69 hv69
            have hlt69 : k69 < 31 := by omega
            have tk69 : (nI k69).toInt = ((k69 : Nat) : Int) := nI_toInt (by omega)
            have eN69 : ((30 : Int32)).toInt = 30 := rfl
            refine s_iload X (pc := 69) (x := nI k69) 6 dX9_soonest_69 rfl ?_
            refine s_bipush X (pc := 71) (v := 30) dX9_soonest_71 (by decide) ?_
            refine s_icmp_gt X (pc := 73) (tgt := 121) dX9_soonest_73 (by decide) (fun c73 => ?_) (fun c73 => ?_)
            ·
              exact absurd ((t_lt eN69 tk69).mp c73) (by omega)
            ·
              refine s_aload_n X (pc := 76) (x := (AD 10 0)) 0 dX9_soonest_76 rfl ?_
              refine s_get X (pc := 77) (v := .ref (AD 8 0)) iX9_soonest_X9 0 rfl rfl 8 (by decide) kX9_soonest_68 rfl rfl dX9_soonest_77 ?_
              refine s_iload_n X (pc := 80) (x := p1) 2 dX9_soonest_80 rfl ?_
              refine s_iload_n X (pc := 81) (x := dy0 p0.toNatClampNeg) 3 dX9_soonest_81 rfl ?_
              refine s_iload X (pc := 82) (x := v69_0) 5 dX9_soonest_82 rfl ?_
              refine s_isub X (pc := 84) dX9_soonest_84 ?_
              refine s_iload_n X (pc := 85) (x := dy0 p0.toNatClampNeg) 3 dX9_soonest_85 rfl ?_
              refine s_iload X (pc := 86) (x := v69_0) 5 dX9_soonest_86 rfl ?_
              refine s_iadd X (pc := 88) dX9_soonest_88 ?_
              refine s_aload_n X (pc := 89) (x := (AD 10 0)) 0 dX9_soonest_89 rfl ?_
              refine s_get X (pc := 90) (v := .ref (AD 1 0)) iX9_soonest_X9 0 rfl rfl 1 (by decide) kX9_soonest_19 rfl rfl dX9_soonest_90 ?_
              refine s_get X (pc := 93) (v := .int dy5) iX9_soonest_X2 3 rfl rfl 5 (by decide) kX9_soonest_117 rfl rfl dX9_soonest_93 ?_
              refine s_iload X (pc := 96) (x := nI k69) 6 dX9_soonest_96 rfl ?_
              refine s_iadd X (pc := 98) dX9_soonest_98 ?_
              refine s_callVi0 X (pc := 99) (r := rX0_suitsWithin sh0 sh2 sh4 sh6 p1 ((dy0 p0.toNatClampNeg) - v69_0) ((dy0 p0.toNatClampNeg) + v69_0) (dy5 + (nI k69))) (w := wC G AD (AD 8 0) (AD 9 0) rd0 rd1 rd2 rd3 rd4 dy0 dy1 dy2 dy3 dy4 dy5 pa0 pa1 pa2 im0 im1 im2 pl0 pl1 pl2 pl3 pl4 pl5 pl6 pl7 pl8 er0 er1 er2 bk0 bk1 bk2 dr0 sh0 sh1 sh2 sh3 sh4 sh5 sh6 sh7 sh8 sp0 sp1 sp2 sp3 sp4 sp5 sp6 sp7 sp8) (n := 4) (st := []) (As := [.int p1, .int ((dy0 p0.toNatClampNeg) - v69_0), .int ((dy0 p0.toNatClampNeg) + v69_0), .int (dy5 + (nI k69))]) (w2 := wC G AD (AD 8 0) (AD 9 0) rd0 rd1 rd2 rd3 rd4 dy0 dy1 dy2 dy3 dy4 dy5 pa0 pa1 pa2 im0 im1 im2 pl0 pl1 pl2 pl3 pl4 pl5 pl6 pl7 pl8 er0 er1 er2 bk0 bk1 bk2 dr0 sh0 sh1 sh2 sh3 sh4 sh5 sh6 sh7 sh8 sp0 sp1 sp2 sp3 sp4 sp5 sp6 sp7 sp8) 1 (c_L8_X0_suitsWithin l G AD (AD 8 0) (AD 9 0) rd0 rd1 rd2 rd3 rd4 dy0 dy1 dy2 dy3 dy4 dy5 pa0 pa1 pa2 im0 im1 im2 pl0 pl1 pl2 pl3 pl4 pl5 pl6 pl7 pl8 er0 er1 er2 bk0 bk1 bk2 dr0 sh0 sh1 sh2 sh3 sh4 sh5 sh6 sh7 sh8 sp0 sp1 sp2 sp3 sp4 sp5 sp6 sp7 sp8 p1 ((dy0 p0.toNatClampNeg) - v69_0) ((dy0 p0.toNatClampNeg) + v69_0) (dy5 + (nI k69)) t12 v19) gX9_soonest_X0_suitsWithin rfl (by decide +kernel) ⟨Nat.le_of_ble_eq_true rfl, Nat.le_of_ble_eq_true rfl⟩ 29 rfl rfl rfl rfl (Nat.le_of_ble_eq_true rfl) (Nat.zero_le _) (Nat.zero_le _) dX9_soonest_99 ?_
              refine s_if_eq X (pc := 102) (tgt := 108) dX9_soonest_102 (by decide) (fun c102 => ?_) (fun c102 => ?_)
              ·
                refine s_iload X (pc := 108) (x := v69_0) 5 dX9_soonest_108 rfl ?_
                refine s_iload X (pc := 110) (x := sh1 p0.toNatClampNeg) 4 dX9_soonest_110 rfl ?_
                refine s_iadd X (pc := 112) dX9_soonest_112 ?_
                refine s_istore X (pc := 113) (i := 5) (lv2 := [(5, .int (v69_0 + (sh1 p0.toNatClampNeg))), (0, .ref (AD 10 0)), (1, .int p0), (2, .int p1), (3, .int (dy0 p0.toNatClampNeg)), (4, .int (sh1 p0.toNatClampNeg)), (6, .int (nI k69))]) dX9_soonest_113 (by decide) rfl ?_
                refine s_iinc X (pc := 115) (v := nI (k69 + 1)) (lv2 := [(6, .int (nI (k69 + 1))), (5, .int (v69_0 + (sh1 p0.toNatClampNeg))), (0, .ref (AD 10 0)), (1, .int p0), (2, .int p1), (3, .int (dy0 p0.toNatClampNeg)), (4, .int (sh1 p0.toNatClampNeg))]) 6 dX9_soonest_115 rfl (nI_1 _) (by decide) rfl ?_
                refine s_goto X (pc := 118) (tgt := 69) dX9_soonest_118 (by decide) ?_
                refine s_perm (lv2 := [(0, .ref (AD 10 0)), (1, .int p0), (2, .int p1), (3, .int (dy0 p0.toNatClampNeg)), (4, .int (sh1 p0.toNatClampNeg)), (5, .int (v69_0 + (sh1 p0.toNatClampNeg))), (6, .int (nI (k69 + 1)))]) [2, 3, 4, 5, 6, 1, 0] rfl ?_
                exact ih69 (k69 + 1) (v69_0 + (sh1 p0.toNatClampNeg)) (by omega) (hv69.trans (show aX9_soonest_69 dy0 dy5 sh0 sh1 sh2 sh4 sh6 p0 p1 (n69 + 1) k69 v69_0 = aX9_soonest_69 dy0 dy5 sh0 sh1 sh2 sh4 sh6 p0 p1 n69 (k69 + 1) (v69_0 + (sh1 p0.toNatClampNeg)) from by rw [aX9_soonest_69]; exact (if_pos c102)))
              ·
                refine s_iload X (pc := 105) (x := nI k69) 6 dX9_soonest_105 rfl ?_
                exact s_iret X (pc := 107) (v := nI k69) dX9_soonest_107 (Eq.symm (show rX9_soonest dy0 dy2 dy5 sh0 sh1 sh2 sh4 sh6 sh7 sh8 p0 p1 = nI k69 from (hv69.trans (show aX9_soonest_69 dy0 dy5 sh0 sh1 sh2 sh4 sh6 p0 p1 (n69 + 1) k69 v69_0 = nI k69 from by rw [aX9_soonest_69]; exact (if_neg c102))))) rfl
        exact L69 31 0 (0 : Int32) (Nat.zero_add _) (by unfold rX9_soonest; exact ((if_neg c8).trans ((if_neg c19).trans (if_neg c55))))
      ·
        refine s_iload X (pc := 58) (x := sh1 p0.toNatClampNeg) 0 dX9_soonest_58 rfl ?_
        refine s_goto X (pc := 60) (tgt := 64) dX9_soonest_60 (by decide) ?_
        refine s_istore X (pc := 64) (i := 5) (lv2 := [(5, .int (sh1 p0.toNatClampNeg)), (4, .int (sh1 p0.toNatClampNeg)), (3, .int (dy0 p0.toNatClampNeg)), (0, .ref (AD 10 0)), (1, .int p0), (2, .int p1)]) dX9_soonest_64 (by decide) rfl ?_
        refine s_iconst X (pc := 66) (v := 0) dX9_soonest_66 (by decide) ?_
        refine s_istore X (pc := 67) (i := 6) (lv2 := [(6, .int (0 : Int32)), (5, .int (sh1 p0.toNatClampNeg)), (4, .int (sh1 p0.toNatClampNeg)), (3, .int (dy0 p0.toNatClampNeg)), (0, .ref (AD 10 0)), (1, .int p0), (2, .int p1)]) dX9_soonest_67 (by decide) rfl ?_
        refine s_perm (lv2 := [(0, .ref (AD 10 0)), (1, .int p0), (2, .int p1), (3, .int (dy0 p0.toNatClampNeg)), (4, .int (sh1 p0.toNatClampNeg)), (5, .int (sh1 p0.toNatClampNeg)), (6, .int (0 : Int32))]) [4, 5, 6, 3, 2, 1, 0] rfl ?_
        have L69 : ∀ (n69 k69 : Nat) (v69_0 : Int32), k69 + n69 = 31 → rX9_soonest dy0 dy2 dy5 sh0 sh1 sh2 sh4 sh6 sh7 sh8 p0 p1 = aX9_soonest_69 dy0 dy5 sh0 sh1 sh2 sh4 sh6 p0 p1 n69 k69 v69_0 → Sm p l e (rmL 2) s m args below meth c G A 7 0 0 (Qci below G A args s (rX9_soonest dy0 dy2 dy5 sh0 sh1 sh2 sh4 sh6 sh7 sh8 p0 p1) (wC G AD (AD 8 0) (AD 9 0) rd0 rd1 rd2 rd3 rd4 dy0 dy1 dy2 dy3 dy4 dy5 pa0 pa1 pa2 im0 im1 im2 pl0 pl1 pl2 pl3 pl4 pl5 pl6 pl7 pl8 er0 er1 er2 bk0 bk1 bk2 dr0 sh0 sh1 sh2 sh3 sh4 sh5 sh6 sh7 sh8 sp0 sp1 sp2 sp3 sp4 sp5 sp6 sp7 sp8)) 69 [(0, .ref (AD 10 0)), (1, .int p0), (2, .int p1), (3, .int (dy0 p0.toNatClampNeg)), (4, .int (sh1 p0.toNatClampNeg)), (5, .int v69_0), (6, .int (nI k69))] [] (wC G AD (AD 8 0) (AD 9 0) rd0 rd1 rd2 rd3 rd4 dy0 dy1 dy2 dy3 dy4 dy5 pa0 pa1 pa2 im0 im1 im2 pl0 pl1 pl2 pl3 pl4 pl5 pl6 pl7 pl8 er0 er1 er2 bk0 bk1 bk2 dr0 sh0 sh1 sh2 sh3 sh4 sh5 sh6 sh7 sh8 sp0 sp1 sp2 sp3 sp4 sp5 sp6 sp7 sp8) := by
          intro n69
          induction n69 with
          | zero =>
            intro k69 v69_0 hk69 hv69
            have hK69 : k69 = 31 := by omega
            have tk69 : (nI k69).toInt = ((k69 : Nat) : Int) := nI_toInt (by omega)
            have eN69 : ((30 : Int32)).toInt = 30 := rfl
            refine s_iload X (pc := 69) (x := nI k69) 6 dX9_soonest_69 rfl ?_
            refine s_bipush X (pc := 71) (v := 30) dX9_soonest_71 (by decide) ?_
            refine s_icmp_gt X (pc := 73) (tgt := 121) dX9_soonest_73 (by decide) (fun c73 => ?_) (fun c73 => ?_)
            ·
              refine s_iconst X (pc := 121) (v := -1) dX9_soonest_121 (by decide) ?_
              exact s_iret X (pc := 122) (v := (-1 : Int32)) dX9_soonest_122 (Eq.symm (show rX9_soonest dy0 dy2 dy5 sh0 sh1 sh2 sh4 sh6 sh7 sh8 p0 p1 = (-1 : Int32) from (hv69.trans (show aX9_soonest_69 dy0 dy5 sh0 sh1 sh2 sh4 sh6 p0 p1 0 k69 v69_0 = (-1 : Int32) from by rw [aX9_soonest_69])))) rfl
            ·
              exact absurd ((t_lt eN69 tk69).mpr (by omega)) c73
          | succ n69 ih69 =>
            intro k69 v69_0 hk69 hv69
            have hlt69 : k69 < 31 := by omega
            have tk69 : (nI k69).toInt = ((k69 : Nat) : Int) := nI_toInt (by omega)
            have eN69 : ((30 : Int32)).toInt = 30 := rfl
            refine s_iload X (pc := 69) (x := nI k69) 6 dX9_soonest_69 rfl ?_
            refine s_bipush X (pc := 71) (v := 30) dX9_soonest_71 (by decide) ?_
            refine s_icmp_gt X (pc := 73) (tgt := 121) dX9_soonest_73 (by decide) (fun c73 => ?_) (fun c73 => ?_)
            ·
              exact absurd ((t_lt eN69 tk69).mp c73) (by omega)
            ·
              refine s_aload_n X (pc := 76) (x := (AD 10 0)) 0 dX9_soonest_76 rfl ?_
              refine s_get X (pc := 77) (v := .ref (AD 8 0)) iX9_soonest_X9 0 rfl rfl 8 (by decide) kX9_soonest_68 rfl rfl dX9_soonest_77 ?_
              refine s_iload_n X (pc := 80) (x := p1) 2 dX9_soonest_80 rfl ?_
              refine s_iload_n X (pc := 81) (x := dy0 p0.toNatClampNeg) 3 dX9_soonest_81 rfl ?_
              refine s_iload X (pc := 82) (x := v69_0) 5 dX9_soonest_82 rfl ?_
              refine s_isub X (pc := 84) dX9_soonest_84 ?_
              refine s_iload_n X (pc := 85) (x := dy0 p0.toNatClampNeg) 3 dX9_soonest_85 rfl ?_
              refine s_iload X (pc := 86) (x := v69_0) 5 dX9_soonest_86 rfl ?_
              refine s_iadd X (pc := 88) dX9_soonest_88 ?_
              refine s_aload_n X (pc := 89) (x := (AD 10 0)) 0 dX9_soonest_89 rfl ?_
              refine s_get X (pc := 90) (v := .ref (AD 1 0)) iX9_soonest_X9 0 rfl rfl 1 (by decide) kX9_soonest_19 rfl rfl dX9_soonest_90 ?_
              refine s_get X (pc := 93) (v := .int dy5) iX9_soonest_X2 3 rfl rfl 5 (by decide) kX9_soonest_117 rfl rfl dX9_soonest_93 ?_
              refine s_iload X (pc := 96) (x := nI k69) 6 dX9_soonest_96 rfl ?_
              refine s_iadd X (pc := 98) dX9_soonest_98 ?_
              refine s_callVi0 X (pc := 99) (r := rX0_suitsWithin sh0 sh2 sh4 sh6 p1 ((dy0 p0.toNatClampNeg) - v69_0) ((dy0 p0.toNatClampNeg) + v69_0) (dy5 + (nI k69))) (w := wC G AD (AD 8 0) (AD 9 0) rd0 rd1 rd2 rd3 rd4 dy0 dy1 dy2 dy3 dy4 dy5 pa0 pa1 pa2 im0 im1 im2 pl0 pl1 pl2 pl3 pl4 pl5 pl6 pl7 pl8 er0 er1 er2 bk0 bk1 bk2 dr0 sh0 sh1 sh2 sh3 sh4 sh5 sh6 sh7 sh8 sp0 sp1 sp2 sp3 sp4 sp5 sp6 sp7 sp8) (n := 4) (st := []) (As := [.int p1, .int ((dy0 p0.toNatClampNeg) - v69_0), .int ((dy0 p0.toNatClampNeg) + v69_0), .int (dy5 + (nI k69))]) (w2 := wC G AD (AD 8 0) (AD 9 0) rd0 rd1 rd2 rd3 rd4 dy0 dy1 dy2 dy3 dy4 dy5 pa0 pa1 pa2 im0 im1 im2 pl0 pl1 pl2 pl3 pl4 pl5 pl6 pl7 pl8 er0 er1 er2 bk0 bk1 bk2 dr0 sh0 sh1 sh2 sh3 sh4 sh5 sh6 sh7 sh8 sp0 sp1 sp2 sp3 sp4 sp5 sp6 sp7 sp8) 1 (c_L8_X0_suitsWithin l G AD (AD 8 0) (AD 9 0) rd0 rd1 rd2 rd3 rd4 dy0 dy1 dy2 dy3 dy4 dy5 pa0 pa1 pa2 im0 im1 im2 pl0 pl1 pl2 pl3 pl4 pl5 pl6 pl7 pl8 er0 er1 er2 bk0 bk1 bk2 dr0 sh0 sh1 sh2 sh3 sh4 sh5 sh6 sh7 sh8 sp0 sp1 sp2 sp3 sp4 sp5 sp6 sp7 sp8 p1 ((dy0 p0.toNatClampNeg) - v69_0) ((dy0 p0.toNatClampNeg) + v69_0) (dy5 + (nI k69)) t12 v19) gX9_soonest_X0_suitsWithin rfl (by decide +kernel) ⟨Nat.le_of_ble_eq_true rfl, Nat.le_of_ble_eq_true rfl⟩ 29 rfl rfl rfl rfl (Nat.le_of_ble_eq_true rfl) (Nat.zero_le _) (Nat.zero_le _) dX9_soonest_99 ?_
              refine s_if_eq X (pc := 102) (tgt := 108) dX9_soonest_102 (by decide) (fun c102 => ?_) (fun c102 => ?_)
              ·
                refine s_iload X (pc := 108) (x := v69_0) 5 dX9_soonest_108 rfl ?_
                refine s_iload X (pc := 110) (x := sh1 p0.toNatClampNeg) 4 dX9_soonest_110 rfl ?_
                refine s_iadd X (pc := 112) dX9_soonest_112 ?_
                refine s_istore X (pc := 113) (i := 5) (lv2 := [(5, .int (v69_0 + (sh1 p0.toNatClampNeg))), (0, .ref (AD 10 0)), (1, .int p0), (2, .int p1), (3, .int (dy0 p0.toNatClampNeg)), (4, .int (sh1 p0.toNatClampNeg)), (6, .int (nI k69))]) dX9_soonest_113 (by decide) rfl ?_
                refine s_iinc X (pc := 115) (v := nI (k69 + 1)) (lv2 := [(6, .int (nI (k69 + 1))), (5, .int (v69_0 + (sh1 p0.toNatClampNeg))), (0, .ref (AD 10 0)), (1, .int p0), (2, .int p1), (3, .int (dy0 p0.toNatClampNeg)), (4, .int (sh1 p0.toNatClampNeg))]) 6 dX9_soonest_115 rfl (nI_1 _) (by decide) rfl ?_
                refine s_goto X (pc := 118) (tgt := 69) dX9_soonest_118 (by decide) ?_
                refine s_perm (lv2 := [(0, .ref (AD 10 0)), (1, .int p0), (2, .int p1), (3, .int (dy0 p0.toNatClampNeg)), (4, .int (sh1 p0.toNatClampNeg)), (5, .int (v69_0 + (sh1 p0.toNatClampNeg))), (6, .int (nI (k69 + 1)))]) [2, 3, 4, 5, 6, 1, 0] rfl ?_
                exact ih69 (k69 + 1) (v69_0 + (sh1 p0.toNatClampNeg)) (by omega) (hv69.trans (show aX9_soonest_69 dy0 dy5 sh0 sh1 sh2 sh4 sh6 p0 p1 (n69 + 1) k69 v69_0 = aX9_soonest_69 dy0 dy5 sh0 sh1 sh2 sh4 sh6 p0 p1 n69 (k69 + 1) (v69_0 + (sh1 p0.toNatClampNeg)) from by rw [aX9_soonest_69]; exact (if_pos c102)))
              ·
                refine s_iload X (pc := 105) (x := nI k69) 6 dX9_soonest_105 rfl ?_
                exact s_iret X (pc := 107) (v := nI k69) dX9_soonest_107 (Eq.symm (show rX9_soonest dy0 dy2 dy5 sh0 sh1 sh2 sh4 sh6 sh7 sh8 p0 p1 = nI k69 from (hv69.trans (show aX9_soonest_69 dy0 dy5 sh0 sh1 sh2 sh4 sh6 p0 p1 (n69 + 1) k69 v69_0 = nI k69 from by rw [aX9_soonest_69]; exact (if_neg c102))))) rfl
        exact L69 31 0 (sh1 p0.toNatClampNeg) (Nat.zero_add _) (by unfold rX9_soonest; exact ((if_neg c8).trans ((if_neg c19).trans (if_pos c55))))
    ·
      refine s_ldc X (pc := 22) (v := -1000000001) kX9_soonest_c152 dX9_soonest_22 ?_
      exact s_iret X (pc := 24) (v := (-1000000001 : Int32)) dX9_soonest_24 (Eq.symm (show rX9_soonest dy0 dy2 dy5 sh0 sh1 sh2 sh4 sh6 sh7 sh8 p0 p1 = (-1000000001 : Int32) from (by unfold rX9_soonest; exact ((if_neg c8).trans (if_pos c19))))) rfl

theorem iX9_offer_X0 : ∀ z ∈ wsX00, z ∈ wsX9_offer := fun z h => List.mem_cons_of_mem _ (List.mem_append_right _ h)
theorem iX9_offer_X9 : ∀ z ∈ wsX90, z ∈ wsX9_offer := fun z h => List.mem_cons_of_mem _ (List.mem_append_left _ (List.mem_append_right _ h))
theorem kX9_offer_68 : Cond.fieldLink RX9 68 "BathingCourt" (TX9 8).2.1 (TX9 8).2.2.1 ∈ wsX9_offer := List.mem_of_getElem? (i := 1) rfl
theorem kX9_offer_c79 : Jvm.Cond.constant RX9 79 (-1000000002) ∈ wsX9_offer := List.mem_of_getElem? (i := 3) rfl
theorem kX9_offer_178 : Cond.fieldLink RX9 178 "BathingCourt$Beach" (TX0 5).2.1 (TX0 5).2.2.1 ∈ wsX9_offer := List.mem_of_getElem? (i := 4) rfl
theorem kX9_offer_m240 : Cond.methodLink RX9 240 Lib.Math.max.name ∈ wsX9_offer := List.mem_of_getElem? (i := 5) rfl
theorem kX9_offer_stmax : Cond.static Lib.Math.max.name ∈ wsX9_offer := List.mem_of_getElem? (i := 6) rfl
theorem kX9_offer_inMath : Cond.initialized "java/lang/Math" ∈ wsX9_offer := List.mem_of_getElem? (i := 7) rfl
theorem kX9_offer_comax : Cond.code Lib.Math.max.name Lib.Math.max.code 2 (some .int) ∈ wsX9_offer := List.mem_of_getElem? (i := 8) rfl
theorem kX9_offer_c152 : Jvm.Cond.constant RX9 152 (-1000000001) ∈ wsX9_offer := List.mem_of_getElem? (i := 2) rfl
def rX9_offer (sh5 : Nat → Int32) (sh8 p0 p1 p2 p3 : Int32) : Int32 := if (rX0_hasCase sh8 p0) = 0 then (-1000000001 : Int32) else (if (rX9_isOutside p1 (0 : Int32) (100 : Int32)) = 0 then (if (rX9_isOutside p2 (0 : Int32) (999 : Int32)) = 0 then (if (rX9_isOutside p3 (0 : Int32) (1 : Int32)) = 0 then (if p3 = 0 then (if (0 : Int32) < ((((sh5 p0.toNatClampNeg) * p1) / (100 : Int32)) - p2) then ((((sh5 p0.toNatClampNeg) * p1) / (100 : Int32)) - p2) else (0 : Int32)) else ((((sh5 p0.toNatClampNeg) * p1) / (100 : Int32)) + p2)) else (-1000000002 : Int32)) else (-1000000002 : Int32)) else (-1000000002 : Int32))
set_option maxRecDepth 100000 in
set_option maxHeartbeats 4000000 in
theorem c_X9_offer (l : Launch) (G : GT) (AD : Nat → Nat → Nat) (rd0 : Nat → Int32) (rd1 rd2 rd3 rd4 : Int32) (dy0 dy1 dy2 dy3 dy4 : Nat → Int32) (dy5 : Int32) (pa0 : Nat → Int32) (pa1 pa2 : Int32) (im0 im1 im2 pl0 pl1 pl2 pl3 pl4 pl5 : Nat → Int32) (pl6 pl7 pl8 : Int32) (er0 er1 : Nat → Int32) (er2 : Int32) (bk0 bk1 : Nat → Int32) (bk2 dr0 : Int32) (sh0 sh1 sh2 sh3 sh4 sh5 : Nat → Int32) (sh6 sh7 sh8 : Int32) (sp0 sp1 sp2 sp3 sp4 sp5 : Nat → Int32) (sp6 sp7 sp8 p0 p1 p2 p3 : Int32) (ca : 0 ≤ sh8) (cb : sh8 ≤ 5) : Ci l G yX9_offer wsX9_offer (rmL 1) [.ref (AD 10 0), .int p0, .int p1, .int p2, .int p3] (wC G AD (AD 8 0) (AD 9 0) rd0 rd1 rd2 rd3 rd4 dy0 dy1 dy2 dy3 dy4 dy5 pa0 pa1 pa2 im0 im1 im2 pl0 pl1 pl2 pl3 pl4 pl5 pl6 pl7 pl8 er0 er1 er2 bk0 bk1 bk2 dr0 sh0 sh1 sh2 sh3 sh4 sh5 sh6 sh7 sh8 sp0 sp1 sp2 sp3 sp4 sp5 sp6 sp7 sp8) (rX9_offer sh5 sh8 p0 p1 p2 p3) (wC G AD (AD 8 0) (AD 9 0) rd0 rd1 rd2 rd3 rd4 dy0 dy1 dy2 dy3 dy4 dy5 pa0 pa1 pa2 im0 im1 im2 pl0 pl1 pl2 pl3 pl4 pl5 pl6 pl7 pl8 er0 er1 er2 bk0 bk1 bk2 dr0 sh0 sh1 sh2 sh3 sh4 sh5 sh6 sh7 sh8 sp0 sp1 sp2 sp3 sp4 sp5 sp6 sp7 sp8) := by
  refine ci_start .int (by decide) rfl rfl (Nat.le_of_ble_eq_true rfl) ?_
  intro p e s m args below meth c A X
  refine s_perm (lv2 := [(0, .ref (AD 10 0)), (1, .int p0), (2, .int p1), (3, .int p2), (4, .int p3)]) [0, 1, 2, 3, 4] rfl ?_
  refine s_aload_n X (pc := 0) (x := (AD 10 0)) 0 dX9_offer_0 rfl ?_
  refine s_get X (pc := 1) (v := .ref (AD 8 0)) iX9_offer_X9 0 rfl rfl 8 (by decide) kX9_offer_68 rfl rfl dX9_offer_1 ?_
  refine s_iload_n X (pc := 4) (x := p0) 1 dX9_offer_4 rfl ?_
  refine s_callVi0 X (pc := 5) (r := rX0_hasCase sh8 p0) (w := wC G AD (AD 8 0) (AD 9 0) rd0 rd1 rd2 rd3 rd4 dy0 dy1 dy2 dy3 dy4 dy5 pa0 pa1 pa2 im0 im1 im2 pl0 pl1 pl2 pl3 pl4 pl5 pl6 pl7 pl8 er0 er1 er2 bk0 bk1 bk2 dr0 sh0 sh1 sh2 sh3 sh4 sh5 sh6 sh7 sh8 sp0 sp1 sp2 sp3 sp4 sp5 sp6 sp7 sp8) (n := 1) (st := []) (As := [.int p0]) (w2 := wC G AD (AD 8 0) (AD 9 0) rd0 rd1 rd2 rd3 rd4 dy0 dy1 dy2 dy3 dy4 dy5 pa0 pa1 pa2 im0 im1 im2 pl0 pl1 pl2 pl3 pl4 pl5 pl6 pl7 pl8 er0 er1 er2 bk0 bk1 bk2 dr0 sh0 sh1 sh2 sh3 sh4 sh5 sh6 sh7 sh8 sp0 sp1 sp2 sp3 sp4 sp5 sp6 sp7 sp8) 0 (c_L8_X0_hasCase l G AD (AD 8 0) (AD 9 0) rd0 rd1 rd2 rd3 rd4 dy0 dy1 dy2 dy3 dy4 dy5 pa0 pa1 pa2 im0 im1 im2 pl0 pl1 pl2 pl3 pl4 pl5 pl6 pl7 pl8 er0 er1 er2 bk0 bk1 bk2 dr0 sh0 sh1 sh2 sh3 sh4 sh5 sh6 sh7 sh8 sp0 sp1 sp2 sp3 sp4 sp5 sp6 sp7 sp8 p0) gX9_offer_X0_hasCase rfl (by decide +kernel) ⟨Nat.le_of_ble_eq_true rfl, Nat.le_of_ble_eq_true rfl⟩ 29 rfl rfl rfl rfl (Nat.le_of_ble_eq_true rfl) (Nat.zero_le _) (Nat.zero_le _) dX9_offer_5 ?_
  refine s_if_ne X (pc := 8) (tgt := 14) dX9_offer_8 (by decide) (fun c8 => ?_) (fun c8 => ?_)
  ·
    have q8 := hasCase_i c8
    have v8 : vp_in _ 5 := vin (b := 5) rfl q8.1 (Int32.lt_of_lt_of_le q8.2 cb)
    refine s_iload_n X (pc := 14) (x := p1) 2 dX9_offer_14 rfl ?_
    refine s_iconst X (pc := 15) (v := 0) dX9_offer_15 (by decide) ?_
    refine s_bipush X (pc := 16) (v := 100) dX9_offer_16 (by decide) ?_
    refine s_callSiN X (pc := 18) (r := rX9_isOutside p1 (0 : Int32) (100 : Int32)) (n := 3) (st := []) (As := [.int p1, .int (0 : Int32), .int (100 : Int32)]) 0 (c_X9_isOutside l G p1 (0 : Int32) (100 : Int32)) gX9_offer_X9_isOutside rfl (by decide +kernel) ⟨Nat.le_of_ble_eq_true rfl, Nat.le_of_ble_eq_true rfl⟩ rfl rfl (Nat.le_of_ble_eq_true rfl) (Nat.zero_le _) (Nat.zero_le _) dX9_offer_18 ?_
    refine s_if_ne X (pc := 21) (tgt := 45) dX9_offer_21 (by decide) (fun c21 => ?_) (fun c21 => ?_)
    ·
      refine s_ldc X (pc := 45) (v := -1000000002) kX9_offer_c79 dX9_offer_45 ?_
      exact s_iret X (pc := 47) (v := (-1000000002 : Int32)) dX9_offer_47 (Eq.symm (show rX9_offer sh5 sh8 p0 p1 p2 p3 = (-1000000002 : Int32) from (by unfold rX9_offer; exact ((if_neg c8).trans (if_neg c21))))) rfl
    ·
      refine s_iload_n X (pc := 24) (x := p2) 3 dX9_offer_24 rfl ?_
      refine s_iconst X (pc := 25) (v := 0) dX9_offer_25 (by decide) ?_
      refine s_sipush X (pc := 26) (v := 999) dX9_offer_26 (by decide) ?_
      refine s_callSiN X (pc := 29) (r := rX9_isOutside p2 (0 : Int32) (999 : Int32)) (n := 3) (st := []) (As := [.int p2, .int (0 : Int32), .int (999 : Int32)]) 0 (c_X9_isOutside l G p2 (0 : Int32) (999 : Int32)) gX9_offer_X9_isOutside rfl (by decide +kernel) ⟨Nat.le_of_ble_eq_true rfl, Nat.le_of_ble_eq_true rfl⟩ rfl rfl (Nat.le_of_ble_eq_true rfl) (Nat.zero_le _) (Nat.zero_le _) dX9_offer_29 ?_
      refine s_if_ne X (pc := 32) (tgt := 45) dX9_offer_32 (by decide) (fun c32 => ?_) (fun c32 => ?_)
      ·
        refine s_ldc X (pc := 45) (v := -1000000002) kX9_offer_c79 dX9_offer_45 ?_
        exact s_iret X (pc := 47) (v := (-1000000002 : Int32)) dX9_offer_47 (Eq.symm (show rX9_offer sh5 sh8 p0 p1 p2 p3 = (-1000000002 : Int32) from (by unfold rX9_offer; exact ((if_neg c8).trans ((if_pos c21).trans (if_neg c32)))))) rfl
      ·
        refine s_iload X (pc := 35) (x := p3) 4 dX9_offer_35 rfl ?_
        refine s_iconst X (pc := 37) (v := 0) dX9_offer_37 (by decide) ?_
        refine s_iconst X (pc := 38) (v := 1) dX9_offer_38 (by decide) ?_
        refine s_callSiN X (pc := 39) (r := rX9_isOutside p3 (0 : Int32) (1 : Int32)) (n := 3) (st := []) (As := [.int p3, .int (0 : Int32), .int (1 : Int32)]) 0 (c_X9_isOutside l G p3 (0 : Int32) (1 : Int32)) gX9_offer_X9_isOutside rfl (by decide +kernel) ⟨Nat.le_of_ble_eq_true rfl, Nat.le_of_ble_eq_true rfl⟩ rfl rfl (Nat.le_of_ble_eq_true rfl) (Nat.zero_le _) (Nat.zero_le _) dX9_offer_39 ?_
        refine s_if_eq X (pc := 42) (tgt := 48) dX9_offer_42 (by decide) (fun c42 => ?_) (fun c42 => ?_)
        ·
          refine s_aload_n X (pc := 48) (x := (AD 10 0)) 0 dX9_offer_48 rfl ?_
          refine s_get X (pc := 49) (v := .ref (AD 8 0)) iX9_offer_X9 0 rfl rfl 8 (by decide) kX9_offer_68 rfl rfl dX9_offer_49 ?_
          refine s_get X (pc := 52) (v := .ref ((AD 8) 6)) iX9_offer_X0 29 rfl rfl 5 (by decide) kX9_offer_178 rfl rfl dX9_offer_52 ?_
          refine s_iload_n X (pc := 55) (x := p0) 1 dX9_offer_55 rfl ?_
          refine s_iald X (pc := 56) (n := 5) (f := sh5) 35 rfl (by first | with_reducible assumption | exact vin (b := 5) rfl (by grind) (by grind)) dX9_offer_56 ?_
          refine s_iload_n X (pc := 57) (x := p1) 2 dX9_offer_57 rfl ?_
          refine s_imul X (pc := 58) dX9_offer_58 ?_
          refine s_bipush X (pc := 59) (v := 100) dX9_offer_59 (by decide) ?_
          refine s_idiv X (pc := 61) dX9_offer_61 (by decide) ?_
          refine s_istore X (pc := 62) (i := 5) (lv2 := [(5, .int (((sh5 p0.toNatClampNeg) * p1) / (100 : Int32))), (0, .ref (AD 10 0)), (1, .int p0), (2, .int p1), (3, .int p2), (4, .int p3)]) dX9_offer_62 (by decide) rfl ?_
          refine s_iload X (pc := 64) (x := p3) 5 dX9_offer_64 rfl ?_
          refine s_if_ne X (pc := 66) (tgt := 80) dX9_offer_66 (by decide) (fun c66 => ?_) (fun c66 => ?_)
          ·
            refine s_iload X (pc := 80) (x := ((sh5 p0.toNatClampNeg) * p1) / (100 : Int32)) 0 dX9_offer_80 rfl ?_
            refine s_iload_n X (pc := 82) (x := p2) 4 dX9_offer_82 rfl ?_
            refine s_iadd X (pc := 83) dX9_offer_83 ?_
            exact s_iret X (pc := 84) (v := (((sh5 p0.toNatClampNeg) * p1) / (100 : Int32)) + p2) dX9_offer_84 (Eq.symm (show rX9_offer sh5 sh8 p0 p1 p2 p3 = (((sh5 p0.toNatClampNeg) * p1) / (100 : Int32)) + p2 from (by unfold rX9_offer; exact ((if_neg c8).trans ((if_pos c21).trans ((if_pos c32).trans ((if_pos c42).trans (if_neg c66)))))))) rfl
          ·
            refine s_iconst X (pc := 69) (v := 0) dX9_offer_69 (by decide) ?_
            refine s_iload X (pc := 70) (x := ((sh5 p0.toNatClampNeg) * p1) / (100 : Int32)) 0 dX9_offer_70 rfl ?_
            refine s_iload_n X (pc := 72) (x := p2) 4 dX9_offer_72 rfl ?_
            refine s_isub X (pc := 73) dX9_offer_73 ?_
            refine s_max X (pc := 74) kX9_offer_m240 kX9_offer_stmax kX9_offer_inMath kX9_offer_comax (Nat.le_of_ble_eq_true rfl) (Nat.le_of_ble_eq_true rfl) (Nat.zero_le _) (Nat.zero_le _) dX9_offer_74 ?_
            refine s_goto X (pc := 77) (tgt := 84) dX9_offer_77 (by decide) ?_
            exact s_iret X (pc := 84) (v := if (0 : Int32) < ((((sh5 p0.toNatClampNeg) * p1) / (100 : Int32)) - p2) then ((((sh5 p0.toNatClampNeg) * p1) / (100 : Int32)) - p2) else (0 : Int32)) dX9_offer_84 (Eq.symm (show rX9_offer sh5 sh8 p0 p1 p2 p3 = if (0 : Int32) < ((((sh5 p0.toNatClampNeg) * p1) / (100 : Int32)) - p2) then ((((sh5 p0.toNatClampNeg) * p1) / (100 : Int32)) - p2) else (0 : Int32) from (by unfold rX9_offer; exact ((if_neg c8).trans ((if_pos c21).trans ((if_pos c32).trans ((if_pos c42).trans (if_pos c66)))))))) rfl
        ·
          refine s_ldc X (pc := 45) (v := -1000000002) kX9_offer_c79 dX9_offer_45 ?_
          exact s_iret X (pc := 47) (v := (-1000000002 : Int32)) dX9_offer_47 (Eq.symm (show rX9_offer sh5 sh8 p0 p1 p2 p3 = (-1000000002 : Int32) from (by unfold rX9_offer; exact ((if_neg c8).trans ((if_pos c21).trans ((if_pos c32).trans (if_neg c42))))))) rfl
  ·
    refine s_ldc X (pc := 11) (v := -1000000001) kX9_offer_c152 dX9_offer_11 ?_
    exact s_iret X (pc := 13) (v := (-1000000001 : Int32)) dX9_offer_13 (Eq.symm (show rX9_offer sh5 sh8 p0 p1 p2 p3 = (-1000000001 : Int32) from (by unfold rX9_offer; exact (if_pos c8)))) rfl

theorem kX9_calm_c79 : Jvm.Cond.constant RX9 79 (-1000000002) ∈ wsX9_calm := List.mem_of_getElem? (i := 1) rfl
theorem kX9_calm_l245 : Jvm.Cond.constantLong RX9 245 (1000000000) ∈ wsX9_calm := List.mem_of_getElem? (i := 2) rfl
theorem kX9_calm_l247 : Jvm.Cond.constantLong RX9 247 (100) ∈ wsX9_calm := List.mem_of_getElem? (i := 3) rfl
def aX9_calm_30 (p1 : Int32) : Nat → Int64
  | 0 => (1000000000 : Int64)
  | k30 + 1 => ((aX9_calm_30 p1 k30) * (((100 : Int32) - p1).toInt64)) / (100 : Int64)
def rX9_calm (p0 p1 : Int32) : Int32 := if (rX9_isOutside p0 (0 : Int32) (60 : Int32)) = 0 then (if (rX9_isOutside p1 (0 : Int32) (100 : Int32)) = 0 then ((aX9_calm_30 p1 p0.toNatClampNeg).toInt32) else (-1000000002 : Int32)) else (-1000000002 : Int32)
set_option maxRecDepth 100000 in
set_option maxHeartbeats 4000000 in
theorem c_X9_calm (l : Launch) (G : GT) (AD : Nat → Nat → Nat) (rd0 : Nat → Int32) (rd1 rd2 rd3 rd4 : Int32) (dy0 dy1 dy2 dy3 dy4 : Nat → Int32) (dy5 : Int32) (pa0 : Nat → Int32) (pa1 pa2 : Int32) (im0 im1 im2 pl0 pl1 pl2 pl3 pl4 pl5 : Nat → Int32) (pl6 pl7 pl8 : Int32) (er0 er1 : Nat → Int32) (er2 : Int32) (bk0 bk1 : Nat → Int32) (bk2 dr0 : Int32) (sh0 sh1 sh2 sh3 sh4 sh5 : Nat → Int32) (sh6 sh7 sh8 : Int32) (sp0 sp1 sp2 sp3 sp4 sp5 : Nat → Int32) (sp6 sp7 sp8 p0 p1 : Int32) : Ci l G yX9_calm wsX9_calm (rmL 1) [.ref (AD 10 0), .int p0, .int p1] (wC G AD (AD 8 0) (AD 9 0) rd0 rd1 rd2 rd3 rd4 dy0 dy1 dy2 dy3 dy4 dy5 pa0 pa1 pa2 im0 im1 im2 pl0 pl1 pl2 pl3 pl4 pl5 pl6 pl7 pl8 er0 er1 er2 bk0 bk1 bk2 dr0 sh0 sh1 sh2 sh3 sh4 sh5 sh6 sh7 sh8 sp0 sp1 sp2 sp3 sp4 sp5 sp6 sp7 sp8) (rX9_calm p0 p1) (wC G AD (AD 8 0) (AD 9 0) rd0 rd1 rd2 rd3 rd4 dy0 dy1 dy2 dy3 dy4 dy5 pa0 pa1 pa2 im0 im1 im2 pl0 pl1 pl2 pl3 pl4 pl5 pl6 pl7 pl8 er0 er1 er2 bk0 bk1 bk2 dr0 sh0 sh1 sh2 sh3 sh4 sh5 sh6 sh7 sh8 sp0 sp1 sp2 sp3 sp4 sp5 sp6 sp7 sp8) := by
  refine ci_start .int (by decide) rfl rfl (Nat.le_of_ble_eq_true rfl) ?_
  intro p e s m args below meth c A X
  refine s_perm (lv2 := [(0, .ref (AD 10 0)), (1, .int p0), (2, .int p1)]) [0, 1, 2] rfl ?_
  refine s_iload_n X (pc := 0) (x := p0) 1 dX9_calm_0 rfl ?_
  refine s_iconst X (pc := 1) (v := 0) dX9_calm_1 (by decide) ?_
  refine s_bipush X (pc := 2) (v := 60) dX9_calm_2 (by decide) ?_
  refine s_callSiN X (pc := 4) (r := rX9_isOutside p0 (0 : Int32) (60 : Int32)) (n := 3) (st := []) (As := [.int p0, .int (0 : Int32), .int (60 : Int32)]) 0 (c_X9_isOutside l G p0 (0 : Int32) (60 : Int32)) gX9_calm_X9_isOutside rfl (by decide +kernel) ⟨Nat.le_of_ble_eq_true rfl, Nat.le_of_ble_eq_true rfl⟩ rfl rfl (Nat.le_of_ble_eq_true rfl) (Nat.zero_le _) (Nat.zero_le _) dX9_calm_4 ?_
  refine s_if_ne X (pc := 7) (tgt := 20) dX9_calm_7 (by decide) (fun c7 => ?_) (fun c7 => ?_)
  ·
    refine s_ldc X (pc := 20) (v := -1000000002) kX9_calm_c79 dX9_calm_20 ?_
    exact s_iret X (pc := 22) (v := (-1000000002 : Int32)) dX9_calm_22 (Eq.symm (show rX9_calm p0 p1 = (-1000000002 : Int32) from (by unfold rX9_calm; exact (if_neg c7)))) rfl
  ·
    have q7 := isO.mp c7
    have e0 := clampInt (x := p0) q7.1
    have hNp := clampLe (x := p0) (n := 60) (b := 60) rfl q7.1 q7.2
    refine s_iload_n X (pc := 10) (x := p1) 2 dX9_calm_10 rfl ?_
    refine s_iconst X (pc := 11) (v := 0) dX9_calm_11 (by decide) ?_
    refine s_bipush X (pc := 12) (v := 100) dX9_calm_12 (by decide) ?_
    refine s_callSiN X (pc := 14) (r := rX9_isOutside p1 (0 : Int32) (100 : Int32)) (n := 3) (st := []) (As := [.int p1, .int (0 : Int32), .int (100 : Int32)]) 0 (c_X9_isOutside l G p1 (0 : Int32) (100 : Int32)) gX9_calm_X9_isOutside rfl (by decide +kernel) ⟨Nat.le_of_ble_eq_true rfl, Nat.le_of_ble_eq_true rfl⟩ rfl rfl (Nat.le_of_ble_eq_true rfl) (Nat.zero_le _) (Nat.zero_le _) dX9_calm_14 ?_
    refine s_if_eq X (pc := 17) (tgt := 23) dX9_calm_17 (by decide) (fun c17 => ?_) (fun c17 => ?_)
    ·
      refine s_ldc2 X (pc := 23) (v := 1000000000) kX9_calm_l245 dX9_calm_23 ?_
      refine s_lstore_n X (pc := 26) (i := 3) (lv2 := [(3, .long (1000000000 : Int64)), (0, .ref (AD 10 0)), (1, .int p0), (2, .int p1)]) dX9_calm_26 rfl (by decide) rfl ?_
      refine s_iconst X (pc := 27) (v := 0) dX9_calm_27 (by decide) ?_
      refine s_istore X (pc := 28) (i := 5) (lv2 := [(5, .int (0 : Int32)), (3, .long (1000000000 : Int64)), (0, .ref (AD 10 0)), (1, .int p0), (2, .int p1)]) dX9_calm_28 (by decide) rfl ?_
      refine s_perm (lv2 := [(0, .ref (AD 10 0)), (1, .int p0), (2, .int p1), (3, .long (1000000000 : Int64)), (5, .int (0 : Int32))]) [2, 3, 4, 1, 0] rfl ?_
      have L30 : ∀ (n30 k30 : Nat), k30 + n30 = p0.toNatClampNeg → Sm p l e (rmL 1) s m args below meth c G A 6 0 0 (Qci below G A args s (rX9_calm p0 p1) (wC G AD (AD 8 0) (AD 9 0) rd0 rd1 rd2 rd3 rd4 dy0 dy1 dy2 dy3 dy4 dy5 pa0 pa1 pa2 im0 im1 im2 pl0 pl1 pl2 pl3 pl4 pl5 pl6 pl7 pl8 er0 er1 er2 bk0 bk1 bk2 dr0 sh0 sh1 sh2 sh3 sh4 sh5 sh6 sh7 sh8 sp0 sp1 sp2 sp3 sp4 sp5 sp6 sp7 sp8)) 30 [(0, .ref (AD 10 0)), (1, .int p0), (2, .int p1), (3, .long (aX9_calm_30 p1 k30)), (5, .int (nI k30))] [] (wC G AD (AD 8 0) (AD 9 0) rd0 rd1 rd2 rd3 rd4 dy0 dy1 dy2 dy3 dy4 dy5 pa0 pa1 pa2 im0 im1 im2 pl0 pl1 pl2 pl3 pl4 pl5 pl6 pl7 pl8 er0 er1 er2 bk0 bk1 bk2 dr0 sh0 sh1 sh2 sh3 sh4 sh5 sh6 sh7 sh8 sp0 sp1 sp2 sp3 sp4 sp5 sp6 sp7 sp8) := by
        intro n30
        induction n30 with
        | zero =>
          intro k30 hk30
          have hK30 : k30 = p0.toNatClampNeg := by omega
          rw [hK30]
          have tk30 : (nI p0.toNatClampNeg).toInt = ((p0.toNatClampNeg : Nat) : Int) := nI_toInt (by omega)
          have eN30 : (p0).toInt = ((p0.toNatClampNeg : Nat) : Int) := e0
          refine s_iload X (pc := 30) (x := nI p0.toNatClampNeg) 4 dX9_calm_30 rfl ?_
          refine s_iload_n X (pc := 32) (x := p0) 1 dX9_calm_32 rfl ?_
          refine s_icmp_ge X (pc := 33) (tgt := 54) dX9_calm_33 (by decide) (fun c33 => ?_) (fun c33 => ?_)
          ·
            refine s_lload_n X (pc := 54) (x := (aX9_calm_30 p1 p0.toNatClampNeg)) 3 dX9_calm_54 rfl ?_
            refine s_l2i X (pc := 55) dX9_calm_55 ?_
            exact s_iret X (pc := 56) (v := (aX9_calm_30 p1 p0.toNatClampNeg).toInt32) dX9_calm_56 (Eq.symm (show rX9_calm p0 p1 = (aX9_calm_30 p1 p0.toNatClampNeg).toInt32 from (by unfold rX9_calm; exact ((if_pos c7).trans (if_pos c17))))) rfl
          ·
            exact absurd ((t_le eN30 tk30).mpr (by omega)) c33
        | succ n30 ih30 =>
          intro k30 hk30
          have hlt30 : k30 < p0.toNatClampNeg := by omega
          have tk30 : (nI k30).toInt = ((k30 : Nat) : Int) := nI_toInt (by omega)
          have eN30 : (p0).toInt = ((p0.toNatClampNeg : Nat) : Int) := e0
          refine s_iload X (pc := 30) (x := nI k30) 4 dX9_calm_30 rfl ?_
          refine s_iload_n X (pc := 32) (x := p0) 1 dX9_calm_32 rfl ?_
          refine s_icmp_ge X (pc := 33) (tgt := 54) dX9_calm_33 (by decide) (fun c33 => ?_) (fun c33 => ?_)
          ·
            exact absurd ((t_le eN30 tk30).mp c33) (by omega)
          ·
            refine s_lload_n X (pc := 36) (x := (aX9_calm_30 p1 k30)) 3 dX9_calm_36 rfl ?_
            refine s_bipush X (pc := 37) (v := 100) dX9_calm_37 (by decide) ?_
            refine s_iload_n X (pc := 39) (x := p1) 2 dX9_calm_39 rfl ?_
            refine s_isub X (pc := 40) dX9_calm_40 ?_
            refine s_i2l X (pc := 41) dX9_calm_41 ?_
            refine s_lmul X (pc := 42) dX9_calm_42 ?_
            refine s_ldc2 X (pc := 43) (v := 100) kX9_calm_l247 dX9_calm_43 ?_
            refine s_ldiv X (pc := 46) dX9_calm_46 (by decide) ?_
            refine s_lstore_n X (pc := 47) (i := 3) (lv2 := [(3, .long (((aX9_calm_30 p1 k30) * (((100 : Int32) - p1).toInt64)) / (100 : Int64))), (0, .ref (AD 10 0)), (1, .int p0), (2, .int p1), (5, .int (nI k30))]) dX9_calm_47 rfl (by decide) rfl ?_
            refine s_iinc X (pc := 48) (v := nI (k30 + 1)) (lv2 := [(5, .int (nI (k30 + 1))), (3, .long (((aX9_calm_30 p1 k30) * (((100 : Int32) - p1).toInt64)) / (100 : Int64))), (0, .ref (AD 10 0)), (1, .int p0), (2, .int p1)]) 4 dX9_calm_48 rfl (nI_1 _) (by decide) rfl ?_
            refine s_goto X (pc := 51) (tgt := 30) dX9_calm_51 (by decide) ?_
            refine s_perm (lv2 := [(0, .ref (AD 10 0)), (1, .int p0), (2, .int p1), (3, .long (((aX9_calm_30 p1 k30) * (((100 : Int32) - p1).toInt64)) / (100 : Int64))), (5, .int (nI (k30 + 1)))]) [2, 3, 4, 1, 0] rfl ?_
            have hb30 : (aX9_calm_30 p1 (k30 + 1)) = ((aX9_calm_30 p1 k30) * (((100 : Int32) - p1).toInt64)) / (100 : Int64) := rfl
            refine s_cast (lv2 := [(0, .ref (AD 10 0)), (1, .int p0), (2, .int p1), (3, .long (aX9_calm_30 p1 (k30 + 1))), (5, .int (nI (k30 + 1)))]) (w2 := wC G AD (AD 8 0) (AD 9 0) rd0 rd1 rd2 rd3 rd4 dy0 dy1 dy2 dy3 dy4 dy5 pa0 pa1 pa2 im0 im1 im2 pl0 pl1 pl2 pl3 pl4 pl5 pl6 pl7 pl8 er0 er1 er2 bk0 bk1 bk2 dr0 sh0 sh1 sh2 sh3 sh4 sh5 sh6 sh7 sh8 sp0 sp1 sp2 sp3 sp4 sp5 sp6 sp7 sp8) (by first | (rw [hb30]; done) | rfl) (by first | (rw [hb30]; done) | rfl) ?_
            exact ih30 (k30 + 1) (by omega)
      exact L30 p0.toNatClampNeg 0 (Nat.zero_add _)
    ·
      refine s_ldc X (pc := 20) (v := -1000000002) kX9_calm_c79 dX9_calm_20 ?_
      exact s_iret X (pc := 22) (v := (-1000000002 : Int32)) dX9_calm_22 (Eq.symm (show rX9_calm p0 p1 = (-1000000002 : Int32) from (by unfold rX9_calm; exact ((if_pos c7).trans (if_neg c17))))) rfl

theorem iX9_shout_X4 : ∀ z ∈ wsX40, z ∈ wsX9_shout := fun z h => List.mem_cons_of_mem _ (List.mem_append_right _ h)
theorem iX9_shout_X9 : ∀ z ∈ wsX90, z ∈ wsX9_shout := fun z h => List.mem_cons_of_mem _ (List.mem_append_left _ (List.mem_append_right _ h))
theorem kX9_shout_47 : Cond.fieldLink RX9 47 "BathingCourt" (TX9 5).2.1 (TX9 5).2.2.1 ∈ wsX9_shout := List.mem_of_getElem? (i := 2) rfl
theorem kX9_shout_128 : Cond.fieldLink RX9 128 "BathingCourt$Ear" (TX4 2).2.1 (TX4 2).2.2.1 ∈ wsX9_shout := List.mem_of_getElem? (i := 3) rfl
theorem kX9_shout_c84 : Jvm.Cond.constant RX9 84 (-1000000004) ∈ wsX9_shout := List.mem_of_getElem? (i := 4) rfl
theorem kX9_shout_c79 : Jvm.Cond.constant RX9 79 (-1000000002) ∈ wsX9_shout := List.mem_of_getElem? (i := 1) rfl
def rX9_shout (er2 p0 : Int32) : Int32 := if (rX9_isNoDepth p0) = 0 then (if er2 < (6 : Int32) then (rX4_add er2) else (-1000000004 : Int32)) else (-1000000002 : Int32)
def sX9_shout_o5_0 (er0 : Nat → Int32) (er2 p0 : Int32) : Nat → Int32 := if (rX9_isNoDepth p0) = 0 then (if er2 < (6 : Int32) then (sX4_add_0 er0 er2 p0) else er0) else er0
def sX9_shout_o5_1 (er1 : Nat → Int32) (er2 p0 p1 : Int32) : Nat → Int32 := if (rX9_isNoDepth p0) = 0 then (if er2 < (6 : Int32) then (sX4_add_1 er1 er2 p1) else er1) else er1
def sX9_shout_o5_2 (er2 p0 : Int32) : Int32 := if (rX9_isNoDepth p0) = 0 then (if er2 < (6 : Int32) then (sX4_add_2 er2) else er2) else er2
set_option maxRecDepth 100000 in
set_option maxHeartbeats 4000000 in
theorem c_X9_shout (l : Launch) (G : GT) (AD : Nat → Nat → Nat) (rd0 : Nat → Int32) (rd1 rd2 rd3 rd4 : Int32) (dy0 dy1 dy2 dy3 dy4 : Nat → Int32) (dy5 : Int32) (pa0 : Nat → Int32) (pa1 pa2 : Int32) (im0 im1 im2 pl0 pl1 pl2 pl3 pl4 pl5 : Nat → Int32) (pl6 pl7 pl8 : Int32) (er0 er1 : Nat → Int32) (er2 : Int32) (bk0 bk1 : Nat → Int32) (bk2 dr0 : Int32) (sh0 sh1 sh2 sh3 sh4 sh5 : Nat → Int32) (sh6 sh7 sh8 : Int32) (sp0 sp1 sp2 sp3 sp4 sp5 : Nat → Int32) (sp6 sp7 sp8 p0 p1 : Int32) (h0 : 0 ≤ er2) (h6 : er2 ≤ 6) (hz : p1 = 0 ∨ p1 = 1) : Ci l G yX9_shout wsX9_shout (rmL 2) [.ref (AD 10 0), .int p0, .int p1] (wC G AD (AD 8 0) (AD 9 0) rd0 rd1 rd2 rd3 rd4 dy0 dy1 dy2 dy3 dy4 dy5 pa0 pa1 pa2 im0 im1 im2 pl0 pl1 pl2 pl3 pl4 pl5 pl6 pl7 pl8 er0 er1 er2 bk0 bk1 bk2 dr0 sh0 sh1 sh2 sh3 sh4 sh5 sh6 sh7 sh8 sp0 sp1 sp2 sp3 sp4 sp5 sp6 sp7 sp8) (rX9_shout er2 p0) (wC G AD (AD 8 0) (AD 9 0) rd0 rd1 rd2 rd3 rd4 dy0 dy1 dy2 dy3 dy4 dy5 pa0 pa1 pa2 im0 im1 im2 pl0 pl1 pl2 pl3 pl4 pl5 pl6 pl7 pl8 (sX9_shout_o5_0 er0 er2 p0) (sX9_shout_o5_1 er1 er2 p0 p1) (sX9_shout_o5_2 er2 p0) bk0 bk1 bk2 dr0 sh0 sh1 sh2 sh3 sh4 sh5 sh6 sh7 sh8 sp0 sp1 sp2 sp3 sp4 sp5 sp6 sp7 sp8) := by
  refine ci_start .int (by decide) rfl rfl (Nat.le_of_ble_eq_true rfl) ?_
  intro p e s m args below meth c A X
  refine s_perm (lv2 := [(0, .ref (AD 10 0)), (1, .int p0), (2, .int p1)]) [0, 1, 2] rfl ?_
  refine s_iload_n X (pc := 0) (x := p0) 1 dX9_shout_0 rfl ?_
  refine s_callSiN X (pc := 1) (r := rX9_isNoDepth p0) (n := 1) (st := []) (As := [.int p0]) 1 (c_X9_isNoDepth l G p0) gX9_shout_X9_isNoDepth rfl (by decide +kernel) ⟨Nat.le_of_ble_eq_true rfl, Nat.le_of_ble_eq_true rfl⟩ rfl rfl (Nat.le_of_ble_eq_true rfl) (Nat.zero_le _) (Nat.zero_le _) dX9_shout_1 ?_
  refine s_if_eq X (pc := 4) (tgt := 10) dX9_shout_4 (by decide) (fun c4 => ?_) (fun c4 => ?_)
  ·
    refine s_aload_n X (pc := 10) (x := (AD 10 0)) 0 dX9_shout_10 rfl ?_
    refine s_get X (pc := 11) (v := .ref (AD 5 0)) iX9_shout_X9 0 rfl rfl 5 (by decide) kX9_shout_47 rfl rfl dX9_shout_11 ?_
    refine s_get X (pc := 14) (v := .int er2) iX9_shout_X4 22 rfl rfl 2 (by decide) kX9_shout_128 rfl rfl dX9_shout_14 ?_
    refine s_bipush X (pc := 17) (v := 6) dX9_shout_17 (by decide) ?_
    refine s_icmp_lt X (pc := 19) (tgt := 25) dX9_shout_19 (by decide) (fun c19 => ?_) (fun c19 => ?_)
    ·
      refine s_aload_n X (pc := 25) (x := (AD 10 0)) 0 dX9_shout_25 rfl ?_
      refine s_get X (pc := 26) (v := .ref (AD 5 0)) iX9_shout_X9 0 rfl rfl 5 (by decide) kX9_shout_47 rfl rfl dX9_shout_26 ?_
      refine s_iload_n X (pc := 29) (x := p0) 1 dX9_shout_29 rfl ?_
      refine s_iload_n X (pc := 30) (x := p1) 2 dX9_shout_30 rfl ?_
      refine s_callVi0 X (pc := 31) (r := rX4_add er2) (w := wC G AD (AD 8 0) (AD 9 0) rd0 rd1 rd2 rd3 rd4 dy0 dy1 dy2 dy3 dy4 dy5 pa0 pa1 pa2 im0 im1 im2 pl0 pl1 pl2 pl3 pl4 pl5 pl6 pl7 pl8 er0 er1 er2 bk0 bk1 bk2 dr0 sh0 sh1 sh2 sh3 sh4 sh5 sh6 sh7 sh8 sp0 sp1 sp2 sp3 sp4 sp5 sp6 sp7 sp8) (n := 2) (st := []) (As := [.int p0, .int p1]) (w2 := wC G AD (AD 8 0) (AD 9 0) rd0 rd1 rd2 rd3 rd4 dy0 dy1 dy2 dy3 dy4 dy5 pa0 pa1 pa2 im0 im1 im2 pl0 pl1 pl2 pl3 pl4 pl5 pl6 pl7 pl8 (sX4_add_0 er0 er2 p0) (sX4_add_1 er1 er2 p1) (sX4_add_2 er2) bk0 bk1 bk2 dr0 sh0 sh1 sh2 sh3 sh4 sh5 sh6 sh7 sh8 sp0 sp1 sp2 sp3 sp4 sp5 sp6 sp7 sp8) 0 (c_L5_X4_add l G AD (AD 8 0) (AD 9 0) rd0 rd1 rd2 rd3 rd4 dy0 dy1 dy2 dy3 dy4 dy5 pa0 pa1 pa2 im0 im1 im2 pl0 pl1 pl2 pl3 pl4 pl5 pl6 pl7 pl8 er0 er1 er2 bk0 bk1 bk2 dr0 sh0 sh1 sh2 sh3 sh4 sh5 sh6 sh7 sh8 sp0 sp1 sp2 sp3 sp4 sp5 sp6 sp7 sp8 p0 p1 h0 hz) gX9_shout_X4_add rfl (by decide +kernel) ⟨Nat.le_of_ble_eq_true rfl, Nat.le_of_ble_eq_true rfl⟩ 22 rfl rfl rfl rfl (Nat.le_of_ble_eq_true rfl) (Nat.zero_le _) (Nat.zero_le _) dX9_shout_31 ?_
      exact s_iret X (pc := 34) (v := rX4_add er2) dX9_shout_34 (Eq.symm (show rX9_shout er2 p0 = rX4_add er2 from (by unfold rX9_shout; exact ((if_pos c4).trans (if_pos c19))))) (by rw [show sX9_shout_o5_0 er0 er2 p0 = sX4_add_0 er0 er2 p0 from (by unfold sX9_shout_o5_0; exact ((if_pos c4).trans (if_pos c19))), show sX9_shout_o5_1 er1 er2 p0 p1 = sX4_add_1 er1 er2 p1 from (by unfold sX9_shout_o5_1; exact ((if_pos c4).trans (if_pos c19))), show sX9_shout_o5_2 er2 p0 = sX4_add_2 er2 from (by unfold sX9_shout_o5_2; exact ((if_pos c4).trans (if_pos c19)))])
    ·
      refine s_ldc X (pc := 22) (v := -1000000004) kX9_shout_c84 dX9_shout_22 ?_
      exact s_iret X (pc := 24) (v := (-1000000004 : Int32)) dX9_shout_24 (Eq.symm (show rX9_shout er2 p0 = (-1000000004 : Int32) from (by unfold rX9_shout; exact ((if_pos c4).trans (if_neg c19))))) (by rw [show sX9_shout_o5_0 er0 er2 p0 = er0 from (by unfold sX9_shout_o5_0; exact ((if_pos c4).trans (if_neg c19))), show sX9_shout_o5_1 er1 er2 p0 p1 = er1 from (by unfold sX9_shout_o5_1; exact ((if_pos c4).trans (if_neg c19))), show sX9_shout_o5_2 er2 p0 = er2 from (by unfold sX9_shout_o5_2; exact ((if_pos c4).trans (if_neg c19)))])
  ·
    refine s_ldc X (pc := 7) (v := -1000000002) kX9_shout_c79 dX9_shout_7 ?_
    exact s_iret X (pc := 9) (v := (-1000000002 : Int32)) dX9_shout_9 (Eq.symm (show rX9_shout er2 p0 = (-1000000002 : Int32) from (by unfold rX9_shout; exact (if_neg c4)))) (by rw [show sX9_shout_o5_0 er0 er2 p0 = er0 from (by unfold sX9_shout_o5_0; exact (if_neg c4)), show sX9_shout_o5_1 er1 er2 p0 p1 = er1 from (by unfold sX9_shout_o5_1; exact (if_neg c4)), show sX9_shout_o5_2 er2 p0 = er2 from (by unfold sX9_shout_o5_2; exact (if_neg c4))])

theorem iX9_bears_X9 : ∀ z ∈ wsX90, z ∈ wsX9_bears := fun z h => List.mem_cons_of_mem _ (List.mem_append_left _ (List.mem_append_right _ h))
theorem kX9_bears_47 : Cond.fieldLink RX9 47 "BathingCourt" (TX9 5).2.1 (TX9 5).2.2.1 ∈ wsX9_bears := List.mem_of_getElem? (i := 1) rfl
def rX9_bears (er0 er1 : Nat → Int32) (er2 : Int32) : Int32 := rX4_allThatFits er0 er1 er2
set_option maxRecDepth 100000 in
set_option maxHeartbeats 4000000 in
theorem c_X9_bears (l : Launch) (G : GT) (AD : Nat → Nat → Nat) (rd0 : Nat → Int32) (rd1 rd2 rd3 rd4 : Int32) (dy0 dy1 dy2 dy3 dy4 : Nat → Int32) (dy5 : Int32) (pa0 : Nat → Int32) (pa1 pa2 : Int32) (im0 im1 im2 pl0 pl1 pl2 pl3 pl4 pl5 : Nat → Int32) (pl6 pl7 pl8 : Int32) (er0 er1 : Nat → Int32) (er2 : Int32) (bk0 bk1 : Nat → Int32) (bk2 dr0 : Int32) (sh0 sh1 sh2 sh3 sh4 sh5 : Nat → Int32) (sh6 sh7 sh8 : Int32) (sp0 sp1 sp2 sp3 sp4 sp5 : Nat → Int32) (sp6 sp7 sp8 : Int32) (h0 : 0 ≤ er2) (h6 : er2 ≤ 6) : Ci l G yX9_bears wsX9_bears (rmL 2) [.ref (AD 10 0)] (wC G AD (AD 8 0) (AD 9 0) rd0 rd1 rd2 rd3 rd4 dy0 dy1 dy2 dy3 dy4 dy5 pa0 pa1 pa2 im0 im1 im2 pl0 pl1 pl2 pl3 pl4 pl5 pl6 pl7 pl8 er0 er1 er2 bk0 bk1 bk2 dr0 sh0 sh1 sh2 sh3 sh4 sh5 sh6 sh7 sh8 sp0 sp1 sp2 sp3 sp4 sp5 sp6 sp7 sp8) (rX9_bears er0 er1 er2) (wC G AD (AD 8 0) (AD 9 0) rd0 rd1 rd2 rd3 rd4 dy0 dy1 dy2 dy3 dy4 dy5 pa0 pa1 pa2 im0 im1 im2 pl0 pl1 pl2 pl3 pl4 pl5 pl6 pl7 pl8 er0 er1 er2 bk0 bk1 bk2 dr0 sh0 sh1 sh2 sh3 sh4 sh5 sh6 sh7 sh8 sp0 sp1 sp2 sp3 sp4 sp5 sp6 sp7 sp8) := by
  refine ci_start .int (by decide) rfl rfl (Nat.le_of_ble_eq_true rfl) ?_
  intro p e s m args below meth c A X
  refine s_perm (lv2 := [(0, .ref (AD 10 0))]) [0] rfl ?_
  refine s_aload_n X (pc := 0) (x := (AD 10 0)) 0 dX9_bears_0 rfl ?_
  refine s_get X (pc := 1) (v := .ref (AD 5 0)) iX9_bears_X9 0 rfl rfl 5 (by decide) kX9_bears_47 rfl rfl dX9_bears_1 ?_
  refine s_callVi0 X (pc := 4) (r := rX4_allThatFits er0 er1 er2) (w := wC G AD (AD 8 0) (AD 9 0) rd0 rd1 rd2 rd3 rd4 dy0 dy1 dy2 dy3 dy4 dy5 pa0 pa1 pa2 im0 im1 im2 pl0 pl1 pl2 pl3 pl4 pl5 pl6 pl7 pl8 er0 er1 er2 bk0 bk1 bk2 dr0 sh0 sh1 sh2 sh3 sh4 sh5 sh6 sh7 sh8 sp0 sp1 sp2 sp3 sp4 sp5 sp6 sp7 sp8) (n := 0) (st := []) (As := []) (w2 := wC G AD (AD 8 0) (AD 9 0) rd0 rd1 rd2 rd3 rd4 dy0 dy1 dy2 dy3 dy4 dy5 pa0 pa1 pa2 im0 im1 im2 pl0 pl1 pl2 pl3 pl4 pl5 pl6 pl7 pl8 er0 er1 er2 bk0 bk1 bk2 dr0 sh0 sh1 sh2 sh3 sh4 sh5 sh6 sh7 sh8 sp0 sp1 sp2 sp3 sp4 sp5 sp6 sp7 sp8) 1 (c_L5_X4_allThatFits l G AD (AD 8 0) (AD 9 0) rd0 rd1 rd2 rd3 rd4 dy0 dy1 dy2 dy3 dy4 dy5 pa0 pa1 pa2 im0 im1 im2 pl0 pl1 pl2 pl3 pl4 pl5 pl6 pl7 pl8 er0 er1 er2 bk0 bk1 bk2 dr0 sh0 sh1 sh2 sh3 sh4 sh5 sh6 sh7 sh8 sp0 sp1 sp2 sp3 sp4 sp5 sp6 sp7 sp8 h0 h6) gX9_bears_X4_allThatFits rfl (by decide +kernel) ⟨Nat.le_of_ble_eq_true rfl, Nat.le_of_ble_eq_true rfl⟩ 22 rfl rfl rfl rfl (Nat.le_of_ble_eq_true rfl) (Nat.zero_le _) (Nat.zero_le _) dX9_bears_4 ?_
  exact s_iret X (pc := 7) (v := rX4_allThatFits er0 er1 er2) dX9_bears_7 rfl rfl

theorem iX9_listen_X9 : ∀ z ∈ wsX90, z ∈ wsX9_listen := fun z h => List.mem_cons_of_mem _ (List.mem_append_left _ (List.mem_append_right _ h))
theorem kX9_listen_47 : Cond.fieldLink RX9 47 "BathingCourt" (TX9 5).2.1 (TX9 5).2.2.1 ∈ wsX9_listen := List.mem_of_getElem? (i := 1) rfl
def rX9_listen (er0 er1 : Nat → Int32) (er2 : Int32) : Int32 := rX4_bestDepth er0 er1 er2
set_option maxRecDepth 100000 in
set_option maxHeartbeats 4000000 in
theorem c_X9_listen (l : Launch) (G : GT) (AD : Nat → Nat → Nat) (rd0 : Nat → Int32) (rd1 rd2 rd3 rd4 : Int32) (dy0 dy1 dy2 dy3 dy4 : Nat → Int32) (dy5 : Int32) (pa0 : Nat → Int32) (pa1 pa2 : Int32) (im0 im1 im2 pl0 pl1 pl2 pl3 pl4 pl5 : Nat → Int32) (pl6 pl7 pl8 : Int32) (er0 er1 : Nat → Int32) (er2 : Int32) (bk0 bk1 : Nat → Int32) (bk2 dr0 : Int32) (sh0 sh1 sh2 sh3 sh4 sh5 : Nat → Int32) (sh6 sh7 sh8 : Int32) (sp0 sp1 sp2 sp3 sp4 sp5 : Nat → Int32) (sp6 sp7 sp8 : Int32) (h0 : 0 ≤ er2) (h6 : er2 ≤ 6) : Ci l G yX9_listen wsX9_listen (rmL 3) [.ref (AD 10 0)] (wC G AD (AD 8 0) (AD 9 0) rd0 rd1 rd2 rd3 rd4 dy0 dy1 dy2 dy3 dy4 dy5 pa0 pa1 pa2 im0 im1 im2 pl0 pl1 pl2 pl3 pl4 pl5 pl6 pl7 pl8 er0 er1 er2 bk0 bk1 bk2 dr0 sh0 sh1 sh2 sh3 sh4 sh5 sh6 sh7 sh8 sp0 sp1 sp2 sp3 sp4 sp5 sp6 sp7 sp8) (rX9_listen er0 er1 er2) (wC G AD (AD 8 0) (AD 9 0) rd0 rd1 rd2 rd3 rd4 dy0 dy1 dy2 dy3 dy4 dy5 pa0 pa1 pa2 im0 im1 im2 pl0 pl1 pl2 pl3 pl4 pl5 pl6 pl7 pl8 er0 er1 er2 bk0 bk1 bk2 dr0 sh0 sh1 sh2 sh3 sh4 sh5 sh6 sh7 sh8 sp0 sp1 sp2 sp3 sp4 sp5 sp6 sp7 sp8) := by
  refine ci_start .int (by decide) rfl rfl (Nat.le_of_ble_eq_true rfl) ?_
  intro p e s m args below meth c A X
  refine s_perm (lv2 := [(0, .ref (AD 10 0))]) [0] rfl ?_
  refine s_aload_n X (pc := 0) (x := (AD 10 0)) 0 dX9_listen_0 rfl ?_
  refine s_get X (pc := 1) (v := .ref (AD 5 0)) iX9_listen_X9 0 rfl rfl 5 (by decide) kX9_listen_47 rfl rfl dX9_listen_1 ?_
  refine s_callVi0 X (pc := 4) (r := rX4_bestDepth er0 er1 er2) (w := wC G AD (AD 8 0) (AD 9 0) rd0 rd1 rd2 rd3 rd4 dy0 dy1 dy2 dy3 dy4 dy5 pa0 pa1 pa2 im0 im1 im2 pl0 pl1 pl2 pl3 pl4 pl5 pl6 pl7 pl8 er0 er1 er2 bk0 bk1 bk2 dr0 sh0 sh1 sh2 sh3 sh4 sh5 sh6 sh7 sh8 sp0 sp1 sp2 sp3 sp4 sp5 sp6 sp7 sp8) (n := 0) (st := []) (As := []) (w2 := wC G AD (AD 8 0) (AD 9 0) rd0 rd1 rd2 rd3 rd4 dy0 dy1 dy2 dy3 dy4 dy5 pa0 pa1 pa2 im0 im1 im2 pl0 pl1 pl2 pl3 pl4 pl5 pl6 pl7 pl8 er0 er1 er2 bk0 bk1 bk2 dr0 sh0 sh1 sh2 sh3 sh4 sh5 sh6 sh7 sh8 sp0 sp1 sp2 sp3 sp4 sp5 sp6 sp7 sp8) 2 (c_L5_X4_bestDepth l G AD (AD 8 0) (AD 9 0) rd0 rd1 rd2 rd3 rd4 dy0 dy1 dy2 dy3 dy4 dy5 pa0 pa1 pa2 im0 im1 im2 pl0 pl1 pl2 pl3 pl4 pl5 pl6 pl7 pl8 er0 er1 er2 bk0 bk1 bk2 dr0 sh0 sh1 sh2 sh3 sh4 sh5 sh6 sh7 sh8 sp0 sp1 sp2 sp3 sp4 sp5 sp6 sp7 sp8 h0 h6) gX9_listen_X4_bestDepth rfl (by decide +kernel) ⟨Nat.le_of_ble_eq_true rfl, Nat.le_of_ble_eq_true rfl⟩ 22 rfl rfl rfl rfl (Nat.le_of_ble_eq_true rfl) (Nat.zero_le _) (Nat.zero_le _) dX9_listen_4 ?_
  exact s_iret X (pc := 7) (v := rX4_bestDepth er0 er1 er2) dX9_listen_7 rfl rfl

theorem iX9_write_X1 : ∀ z ∈ wsX10, z ∈ wsX9_write := fun z h => List.mem_cons_of_mem _ (List.mem_append_left _ (List.mem_append_right _ h))
theorem iX9_write_X9 : ∀ z ∈ wsX90, z ∈ wsX9_write := fun z h => List.mem_cons_of_mem _ (List.mem_append_left _ (List.mem_append_left _ (List.mem_append_right _ h)))
theorem kX9_write_68 : Cond.fieldLink RX9 68 "BathingCourt" (TX9 8).2.1 (TX9 8).2.2.1 ∈ wsX9_write := List.mem_of_getElem? (i := 1) rfl
theorem kX9_write_54 : Cond.fieldLink RX9 54 "BathingCourt" (TX9 6).2.1 (TX9 6).2.2.1 ∈ wsX9_write := List.mem_of_getElem? (i := 4) rfl
theorem kX9_write_131 : Cond.fieldLink RX9 131 "BathingCourt$Book" (TX1 2).2.1 (TX1 2).2.2.1 ∈ wsX9_write := List.mem_of_getElem? (i := 5) rfl
theorem kX9_write_c84 : Jvm.Cond.constant RX9 84 (-1000000004) ∈ wsX9_write := List.mem_of_getElem? (i := 6) rfl
theorem kX9_write_c79 : Jvm.Cond.constant RX9 79 (-1000000002) ∈ wsX9_write := List.mem_of_getElem? (i := 3) rfl
theorem kX9_write_c152 : Jvm.Cond.constant RX9 152 (-1000000001) ∈ wsX9_write := List.mem_of_getElem? (i := 2) rfl
def rX9_write (bk2 sh8 p0 p1 : Int32) : Int32 := if (rX0_hasCase sh8 p0) = 0 then (-1000000001 : Int32) else (if (rX9_isOutside p1 (0 : Int32) (4 : Int32)) = 0 then (if bk2 < (15 : Int32) then (rX1_add bk2) else (-1000000004 : Int32)) else (-1000000002 : Int32))
def sX9_write_o6_0 (bk0 : Nat → Int32) (bk2 sh8 p0 p1 : Int32) : Nat → Int32 := if (rX0_hasCase sh8 p0) = 0 then bk0 else (if (rX9_isOutside p1 (0 : Int32) (4 : Int32)) = 0 then (if bk2 < (15 : Int32) then (sX1_add_0 bk0 bk2 p0) else bk0) else bk0)
def sX9_write_o6_1 (bk1 : Nat → Int32) (bk2 sh8 p0 p1 : Int32) : Nat → Int32 := if (rX0_hasCase sh8 p0) = 0 then bk1 else (if (rX9_isOutside p1 (0 : Int32) (4 : Int32)) = 0 then (if bk2 < (15 : Int32) then (sX1_add_1 bk1 bk2 p1) else bk1) else bk1)
def sX9_write_o6_2 (bk2 sh8 p0 p1 : Int32) : Int32 := if (rX0_hasCase sh8 p0) = 0 then bk2 else (if (rX9_isOutside p1 (0 : Int32) (4 : Int32)) = 0 then (if bk2 < (15 : Int32) then (sX1_add_2 bk2) else bk2) else bk2)
set_option maxRecDepth 100000 in
set_option maxHeartbeats 4000000 in
theorem c_X9_write (l : Launch) (G : GT) (AD : Nat → Nat → Nat) (rd0 : Nat → Int32) (rd1 rd2 rd3 rd4 : Int32) (dy0 dy1 dy2 dy3 dy4 : Nat → Int32) (dy5 : Int32) (pa0 : Nat → Int32) (pa1 pa2 : Int32) (im0 im1 im2 pl0 pl1 pl2 pl3 pl4 pl5 : Nat → Int32) (pl6 pl7 pl8 : Int32) (er0 er1 : Nat → Int32) (er2 : Int32) (bk0 bk1 : Nat → Int32) (bk2 dr0 : Int32) (sh0 sh1 sh2 sh3 sh4 sh5 : Nat → Int32) (sh6 sh7 sh8 : Int32) (sp0 sp1 sp2 sp3 sp4 sp5 : Nat → Int32) (sp6 sp7 sp8 p0 p1 : Int32) (ca : 0 ≤ sh8) (cb : sh8 ≤ 5) (b0 : 0 ≤ bk2) : Ci l G yX9_write wsX9_write (rmL 1) [.ref (AD 10 0), .int p0, .int p1] (wC G AD (AD 8 0) (AD 9 0) rd0 rd1 rd2 rd3 rd4 dy0 dy1 dy2 dy3 dy4 dy5 pa0 pa1 pa2 im0 im1 im2 pl0 pl1 pl2 pl3 pl4 pl5 pl6 pl7 pl8 er0 er1 er2 bk0 bk1 bk2 dr0 sh0 sh1 sh2 sh3 sh4 sh5 sh6 sh7 sh8 sp0 sp1 sp2 sp3 sp4 sp5 sp6 sp7 sp8) (rX9_write bk2 sh8 p0 p1) (wC G AD (AD 8 0) (AD 9 0) rd0 rd1 rd2 rd3 rd4 dy0 dy1 dy2 dy3 dy4 dy5 pa0 pa1 pa2 im0 im1 im2 pl0 pl1 pl2 pl3 pl4 pl5 pl6 pl7 pl8 er0 er1 er2 (sX9_write_o6_0 bk0 bk2 sh8 p0 p1) (sX9_write_o6_1 bk1 bk2 sh8 p0 p1) (sX9_write_o6_2 bk2 sh8 p0 p1) dr0 sh0 sh1 sh2 sh3 sh4 sh5 sh6 sh7 sh8 sp0 sp1 sp2 sp3 sp4 sp5 sp6 sp7 sp8) := by
  refine ci_start .int (by decide) rfl rfl (Nat.le_of_ble_eq_true rfl) ?_
  intro p e s m args below meth c A X
  refine s_perm (lv2 := [(0, .ref (AD 10 0)), (1, .int p0), (2, .int p1)]) [0, 1, 2] rfl ?_
  refine s_aload_n X (pc := 0) (x := (AD 10 0)) 0 dX9_write_0 rfl ?_
  refine s_get X (pc := 1) (v := .ref (AD 8 0)) iX9_write_X9 0 rfl rfl 8 (by decide) kX9_write_68 rfl rfl dX9_write_1 ?_
  refine s_iload_n X (pc := 4) (x := p0) 1 dX9_write_4 rfl ?_
  refine s_callVi0 X (pc := 5) (r := rX0_hasCase sh8 p0) (w := wC G AD (AD 8 0) (AD 9 0) rd0 rd1 rd2 rd3 rd4 dy0 dy1 dy2 dy3 dy4 dy5 pa0 pa1 pa2 im0 im1 im2 pl0 pl1 pl2 pl3 pl4 pl5 pl6 pl7 pl8 er0 er1 er2 bk0 bk1 bk2 dr0 sh0 sh1 sh2 sh3 sh4 sh5 sh6 sh7 sh8 sp0 sp1 sp2 sp3 sp4 sp5 sp6 sp7 sp8) (n := 1) (st := []) (As := [.int p0]) (w2 := wC G AD (AD 8 0) (AD 9 0) rd0 rd1 rd2 rd3 rd4 dy0 dy1 dy2 dy3 dy4 dy5 pa0 pa1 pa2 im0 im1 im2 pl0 pl1 pl2 pl3 pl4 pl5 pl6 pl7 pl8 er0 er1 er2 bk0 bk1 bk2 dr0 sh0 sh1 sh2 sh3 sh4 sh5 sh6 sh7 sh8 sp0 sp1 sp2 sp3 sp4 sp5 sp6 sp7 sp8) 0 (c_L8_X0_hasCase l G AD (AD 8 0) (AD 9 0) rd0 rd1 rd2 rd3 rd4 dy0 dy1 dy2 dy3 dy4 dy5 pa0 pa1 pa2 im0 im1 im2 pl0 pl1 pl2 pl3 pl4 pl5 pl6 pl7 pl8 er0 er1 er2 bk0 bk1 bk2 dr0 sh0 sh1 sh2 sh3 sh4 sh5 sh6 sh7 sh8 sp0 sp1 sp2 sp3 sp4 sp5 sp6 sp7 sp8 p0) gX9_write_X0_hasCase rfl (by decide +kernel) ⟨Nat.le_of_ble_eq_true rfl, Nat.le_of_ble_eq_true rfl⟩ 29 rfl rfl rfl rfl (Nat.le_of_ble_eq_true rfl) (Nat.zero_le _) (Nat.zero_le _) dX9_write_5 ?_
  refine s_if_ne X (pc := 8) (tgt := 14) dX9_write_8 (by decide) (fun c8 => ?_) (fun c8 => ?_)
  ·
    have q8 := hasCase_i c8
    have v8 : vp_in _ 5 := vin (b := 5) rfl q8.1 (Int32.lt_of_lt_of_le q8.2 cb)
    refine s_iload_n X (pc := 14) (x := p1) 2 dX9_write_14 rfl ?_
    refine s_iconst X (pc := 15) (v := 0) dX9_write_15 (by decide) ?_
    refine s_iconst X (pc := 16) (v := 4) dX9_write_16 (by decide) ?_
    refine s_callSiN X (pc := 17) (r := rX9_isOutside p1 (0 : Int32) (4 : Int32)) (n := 3) (st := []) (As := [.int p1, .int (0 : Int32), .int (4 : Int32)]) 0 (c_X9_isOutside l G p1 (0 : Int32) (4 : Int32)) gX9_write_X9_isOutside rfl (by decide +kernel) ⟨Nat.le_of_ble_eq_true rfl, Nat.le_of_ble_eq_true rfl⟩ rfl rfl (Nat.le_of_ble_eq_true rfl) (Nat.zero_le _) (Nat.zero_le _) dX9_write_17 ?_
    refine s_if_eq X (pc := 20) (tgt := 26) dX9_write_20 (by decide) (fun c20 => ?_) (fun c20 => ?_)
    ·
      refine s_aload_n X (pc := 26) (x := (AD 10 0)) 0 dX9_write_26 rfl ?_
      refine s_get X (pc := 27) (v := .ref (AD 6 0)) iX9_write_X9 0 rfl rfl 6 (by decide) kX9_write_54 rfl rfl dX9_write_27 ?_
      refine s_get X (pc := 30) (v := .int bk2) iX9_write_X1 25 rfl rfl 2 (by decide) kX9_write_131 rfl rfl dX9_write_30 ?_
      refine s_bipush X (pc := 33) (v := 15) dX9_write_33 (by decide) ?_
      refine s_icmp_lt X (pc := 35) (tgt := 41) dX9_write_35 (by decide) (fun c35 => ?_) (fun c35 => ?_)
      ·
        refine s_aload_n X (pc := 41) (x := (AD 10 0)) 0 dX9_write_41 rfl ?_
        refine s_get X (pc := 42) (v := .ref (AD 6 0)) iX9_write_X9 0 rfl rfl 6 (by decide) kX9_write_54 rfl rfl dX9_write_42 ?_
        refine s_iload_n X (pc := 45) (x := p0) 1 dX9_write_45 rfl ?_
        refine s_iload_n X (pc := 46) (x := p1) 2 dX9_write_46 rfl ?_
        refine s_callVi0 X (pc := 47) (r := rX1_add bk2) (w := wC G AD (AD 8 0) (AD 9 0) rd0 rd1 rd2 rd3 rd4 dy0 dy1 dy2 dy3 dy4 dy5 pa0 pa1 pa2 im0 im1 im2 pl0 pl1 pl2 pl3 pl4 pl5 pl6 pl7 pl8 er0 er1 er2 bk0 bk1 bk2 dr0 sh0 sh1 sh2 sh3 sh4 sh5 sh6 sh7 sh8 sp0 sp1 sp2 sp3 sp4 sp5 sp6 sp7 sp8) (n := 2) (st := []) (As := [.int p0, .int p1]) (w2 := wC G AD (AD 8 0) (AD 9 0) rd0 rd1 rd2 rd3 rd4 dy0 dy1 dy2 dy3 dy4 dy5 pa0 pa1 pa2 im0 im1 im2 pl0 pl1 pl2 pl3 pl4 pl5 pl6 pl7 pl8 er0 er1 er2 (sX1_add_0 bk0 bk2 p0) (sX1_add_1 bk1 bk2 p1) (sX1_add_2 bk2) dr0 sh0 sh1 sh2 sh3 sh4 sh5 sh6 sh7 sh8 sp0 sp1 sp2 sp3 sp4 sp5 sp6 sp7 sp8) 0 (c_L6_X1_add l G AD (AD 8 0) (AD 9 0) rd0 rd1 rd2 rd3 rd4 dy0 dy1 dy2 dy3 dy4 dy5 pa0 pa1 pa2 im0 im1 im2 pl0 pl1 pl2 pl3 pl4 pl5 pl6 pl7 pl8 er0 er1 er2 bk0 bk1 bk2 dr0 sh0 sh1 sh2 sh3 sh4 sh5 sh6 sh7 sh8 sp0 sp1 sp2 sp3 sp4 sp5 sp6 sp7 sp8 p0 p1 b0) gX9_write_X1_add rfl (by decide +kernel) ⟨Nat.le_of_ble_eq_true rfl, Nat.le_of_ble_eq_true rfl⟩ 25 rfl rfl rfl rfl (Nat.le_of_ble_eq_true rfl) (Nat.zero_le _) (Nat.zero_le _) dX9_write_47 ?_
        exact s_iret X (pc := 50) (v := rX1_add bk2) dX9_write_50 (Eq.symm (show rX9_write bk2 sh8 p0 p1 = rX1_add bk2 from (by unfold rX9_write; exact ((if_neg c8).trans ((if_pos c20).trans (if_pos c35)))))) (by rw [show sX9_write_o6_0 bk0 bk2 sh8 p0 p1 = sX1_add_0 bk0 bk2 p0 from (by unfold sX9_write_o6_0; exact ((if_neg c8).trans ((if_pos c20).trans (if_pos c35)))), show sX9_write_o6_1 bk1 bk2 sh8 p0 p1 = sX1_add_1 bk1 bk2 p1 from (by unfold sX9_write_o6_1; exact ((if_neg c8).trans ((if_pos c20).trans (if_pos c35)))), show sX9_write_o6_2 bk2 sh8 p0 p1 = sX1_add_2 bk2 from (by unfold sX9_write_o6_2; exact ((if_neg c8).trans ((if_pos c20).trans (if_pos c35))))])
      ·
        refine s_ldc X (pc := 38) (v := -1000000004) kX9_write_c84 dX9_write_38 ?_
        exact s_iret X (pc := 40) (v := (-1000000004 : Int32)) dX9_write_40 (Eq.symm (show rX9_write bk2 sh8 p0 p1 = (-1000000004 : Int32) from (by unfold rX9_write; exact ((if_neg c8).trans ((if_pos c20).trans (if_neg c35)))))) (by rw [show sX9_write_o6_0 bk0 bk2 sh8 p0 p1 = bk0 from (by unfold sX9_write_o6_0; exact ((if_neg c8).trans ((if_pos c20).trans (if_neg c35)))), show sX9_write_o6_1 bk1 bk2 sh8 p0 p1 = bk1 from (by unfold sX9_write_o6_1; exact ((if_neg c8).trans ((if_pos c20).trans (if_neg c35)))), show sX9_write_o6_2 bk2 sh8 p0 p1 = bk2 from (by unfold sX9_write_o6_2; exact ((if_neg c8).trans ((if_pos c20).trans (if_neg c35))))])
    ·
      refine s_ldc X (pc := 23) (v := -1000000002) kX9_write_c79 dX9_write_23 ?_
      exact s_iret X (pc := 25) (v := (-1000000002 : Int32)) dX9_write_25 (Eq.symm (show rX9_write bk2 sh8 p0 p1 = (-1000000002 : Int32) from (by unfold rX9_write; exact ((if_neg c8).trans (if_neg c20))))) (by rw [show sX9_write_o6_0 bk0 bk2 sh8 p0 p1 = bk0 from (by unfold sX9_write_o6_0; exact ((if_neg c8).trans (if_neg c20))), show sX9_write_o6_1 bk1 bk2 sh8 p0 p1 = bk1 from (by unfold sX9_write_o6_1; exact ((if_neg c8).trans (if_neg c20))), show sX9_write_o6_2 bk2 sh8 p0 p1 = bk2 from (by unfold sX9_write_o6_2; exact ((if_neg c8).trans (if_neg c20)))])
  ·
    refine s_ldc X (pc := 11) (v := -1000000001) kX9_write_c152 dX9_write_11 ?_
    exact s_iret X (pc := 13) (v := (-1000000001 : Int32)) dX9_write_13 (Eq.symm (show rX9_write bk2 sh8 p0 p1 = (-1000000001 : Int32) from (by unfold rX9_write; exact (if_pos c8)))) (by rw [show sX9_write_o6_0 bk0 bk2 sh8 p0 p1 = bk0 from (by unfold sX9_write_o6_0; exact (if_pos c8)), show sX9_write_o6_1 bk1 bk2 sh8 p0 p1 = bk1 from (by unfold sX9_write_o6_1; exact (if_pos c8)), show sX9_write_o6_2 bk2 sh8 p0 p1 = bk2 from (by unfold sX9_write_o6_2; exact (if_pos c8))])

theorem iX9_tear_X1 : ∀ z ∈ wsX10, z ∈ wsX9_tear := fun z h => List.mem_cons_of_mem _ (List.mem_append_right _ h)
theorem iX9_tear_X4 : ∀ z ∈ wsX40, z ∈ wsX9_tear := fun z h => List.mem_cons_of_mem _ (List.mem_append_left _ (List.mem_append_right _ h))
theorem iX9_tear_X9 : ∀ z ∈ wsX90, z ∈ wsX9_tear := fun z h => List.mem_cons_of_mem _ (List.mem_append_left _ (List.mem_append_left _ (List.mem_append_right _ h)))
theorem kX9_tear_47 : Cond.fieldLink RX9 47 "BathingCourt" (TX9 5).2.1 (TX9 5).2.2.1 ∈ wsX9_tear := List.mem_of_getElem? (i := 1) rfl
theorem kX9_tear_128 : Cond.fieldLink RX9 128 "BathingCourt$Ear" (TX4 2).2.1 (TX4 2).2.2.1 ∈ wsX9_tear := List.mem_of_getElem? (i := 2) rfl
theorem kX9_tear_54 : Cond.fieldLink RX9 54 "BathingCourt" (TX9 6).2.1 (TX9 6).2.2.1 ∈ wsX9_tear := List.mem_of_getElem? (i := 3) rfl
theorem kX9_tear_131 : Cond.fieldLink RX9 131 "BathingCourt$Book" (TX1 2).2.1 (TX1 2).2.2.1 ∈ wsX9_tear := List.mem_of_getElem? (i := 4) rfl
def rX9_tear (er2 bk2 : Int32) : Int32 := er2 + bk2
def sX9_tear_o5_2 : Int32 := sX4_forget_2
def sX9_tear_o6_2 : Int32 := sX1_forget_2
set_option maxRecDepth 100000 in
set_option maxHeartbeats 4000000 in
theorem c_X9_tear (l : Launch) (G : GT) (AD : Nat → Nat → Nat) (rd0 : Nat → Int32) (rd1 rd2 rd3 rd4 : Int32) (dy0 dy1 dy2 dy3 dy4 : Nat → Int32) (dy5 : Int32) (pa0 : Nat → Int32) (pa1 pa2 : Int32) (im0 im1 im2 pl0 pl1 pl2 pl3 pl4 pl5 : Nat → Int32) (pl6 pl7 pl8 : Int32) (er0 er1 : Nat → Int32) (er2 : Int32) (bk0 bk1 : Nat → Int32) (bk2 dr0 : Int32) (sh0 sh1 sh2 sh3 sh4 sh5 : Nat → Int32) (sh6 sh7 sh8 : Int32) (sp0 sp1 sp2 sp3 sp4 sp5 : Nat → Int32) (sp6 sp7 sp8 : Int32) : Ci l G yX9_tear wsX9_tear (rmL 1) [.ref (AD 10 0)] (wC G AD (AD 8 0) (AD 9 0) rd0 rd1 rd2 rd3 rd4 dy0 dy1 dy2 dy3 dy4 dy5 pa0 pa1 pa2 im0 im1 im2 pl0 pl1 pl2 pl3 pl4 pl5 pl6 pl7 pl8 er0 er1 er2 bk0 bk1 bk2 dr0 sh0 sh1 sh2 sh3 sh4 sh5 sh6 sh7 sh8 sp0 sp1 sp2 sp3 sp4 sp5 sp6 sp7 sp8) (rX9_tear er2 bk2) (wC G AD (AD 8 0) (AD 9 0) rd0 rd1 rd2 rd3 rd4 dy0 dy1 dy2 dy3 dy4 dy5 pa0 pa1 pa2 im0 im1 im2 pl0 pl1 pl2 pl3 pl4 pl5 pl6 pl7 pl8 er0 er1 sX9_tear_o5_2 bk0 bk1 sX9_tear_o6_2 dr0 sh0 sh1 sh2 sh3 sh4 sh5 sh6 sh7 sh8 sp0 sp1 sp2 sp3 sp4 sp5 sp6 sp7 sp8) := by
  refine ci_start .int (by decide) rfl rfl (Nat.le_of_ble_eq_true rfl) ?_
  intro p e s m args below meth c A X
  refine s_perm (lv2 := [(0, .ref (AD 10 0))]) [0] rfl ?_
  refine s_aload_n X (pc := 0) (x := (AD 10 0)) 0 dX9_tear_0 rfl ?_
  refine s_get X (pc := 1) (v := .ref (AD 5 0)) iX9_tear_X9 0 rfl rfl 5 (by decide) kX9_tear_47 rfl rfl dX9_tear_1 ?_
  refine s_get X (pc := 4) (v := .int er2) iX9_tear_X4 22 rfl rfl 2 (by decide) kX9_tear_128 rfl rfl dX9_tear_4 ?_
  refine s_aload_n X (pc := 7) (x := (AD 10 0)) 0 dX9_tear_7 rfl ?_
  refine s_get X (pc := 8) (v := .ref (AD 6 0)) iX9_tear_X9 0 rfl rfl 6 (by decide) kX9_tear_54 rfl rfl dX9_tear_8 ?_
  refine s_get X (pc := 11) (v := .int bk2) iX9_tear_X1 25 rfl rfl 2 (by decide) kX9_tear_131 rfl rfl dX9_tear_11 ?_
  refine s_iadd X (pc := 14) dX9_tear_14 ?_
  refine s_istore_n X (pc := 15) (i := 1) (lv2 := [(1, .int (er2 + bk2)), (0, .ref (AD 10 0))]) dX9_tear_15 rfl (by decide) rfl ?_
  refine s_aload_n X (pc := 16) (x := (AD 10 0)) 1 dX9_tear_16 rfl ?_
  refine s_get X (pc := 17) (v := .ref (AD 5 0)) iX9_tear_X9 0 rfl rfl 5 (by decide) kX9_tear_47 rfl rfl dX9_tear_17 ?_
  refine s_callVv0 X (pc := 20) (w := wC G AD (AD 8 0) (AD 9 0) rd0 rd1 rd2 rd3 rd4 dy0 dy1 dy2 dy3 dy4 dy5 pa0 pa1 pa2 im0 im1 im2 pl0 pl1 pl2 pl3 pl4 pl5 pl6 pl7 pl8 er0 er1 er2 bk0 bk1 bk2 dr0 sh0 sh1 sh2 sh3 sh4 sh5 sh6 sh7 sh8 sp0 sp1 sp2 sp3 sp4 sp5 sp6 sp7 sp8) (n := 0) (st := []) (As := []) (w2 := wC G AD (AD 8 0) (AD 9 0) rd0 rd1 rd2 rd3 rd4 dy0 dy1 dy2 dy3 dy4 dy5 pa0 pa1 pa2 im0 im1 im2 pl0 pl1 pl2 pl3 pl4 pl5 pl6 pl7 pl8 er0 er1 sX4_forget_2 bk0 bk1 bk2 dr0 sh0 sh1 sh2 sh3 sh4 sh5 sh6 sh7 sh8 sp0 sp1 sp2 sp3 sp4 sp5 sp6 sp7 sp8) 0 (c_L5_X4_forget l G AD (AD 8 0) (AD 9 0) rd0 rd1 rd2 rd3 rd4 dy0 dy1 dy2 dy3 dy4 dy5 pa0 pa1 pa2 im0 im1 im2 pl0 pl1 pl2 pl3 pl4 pl5 pl6 pl7 pl8 er0 er1 er2 bk0 bk1 bk2 dr0 sh0 sh1 sh2 sh3 sh4 sh5 sh6 sh7 sh8 sp0 sp1 sp2 sp3 sp4 sp5 sp6 sp7 sp8) gX9_tear_X4_forget rfl (by decide +kernel) ⟨Nat.le_of_ble_eq_true rfl, Nat.le_of_ble_eq_true rfl⟩ 22 rfl rfl rfl rfl (Nat.le_of_ble_eq_true rfl) (Nat.zero_le _) (Nat.zero_le _) dX9_tear_20 ?_
  refine s_aload_n X (pc := 23) (x := (AD 10 0)) 1 dX9_tear_23 rfl ?_
  refine s_get X (pc := 24) (v := .ref (AD 6 0)) iX9_tear_X9 0 rfl rfl 6 (by decide) kX9_tear_54 rfl rfl dX9_tear_24 ?_
  refine s_callVv0 X (pc := 27) (w := wC G AD (AD 8 0) (AD 9 0) rd0 rd1 rd2 rd3 rd4 dy0 dy1 dy2 dy3 dy4 dy5 pa0 pa1 pa2 im0 im1 im2 pl0 pl1 pl2 pl3 pl4 pl5 pl6 pl7 pl8 er0 er1 sX4_forget_2 bk0 bk1 bk2 dr0 sh0 sh1 sh2 sh3 sh4 sh5 sh6 sh7 sh8 sp0 sp1 sp2 sp3 sp4 sp5 sp6 sp7 sp8) (n := 0) (st := []) (As := []) (w2 := wC G AD (AD 8 0) (AD 9 0) rd0 rd1 rd2 rd3 rd4 dy0 dy1 dy2 dy3 dy4 dy5 pa0 pa1 pa2 im0 im1 im2 pl0 pl1 pl2 pl3 pl4 pl5 pl6 pl7 pl8 er0 er1 sX4_forget_2 bk0 bk1 sX1_forget_2 dr0 sh0 sh1 sh2 sh3 sh4 sh5 sh6 sh7 sh8 sp0 sp1 sp2 sp3 sp4 sp5 sp6 sp7 sp8) 0 (c_L6_X1_forget l G AD (AD 8 0) (AD 9 0) rd0 rd1 rd2 rd3 rd4 dy0 dy1 dy2 dy3 dy4 dy5 pa0 pa1 pa2 im0 im1 im2 pl0 pl1 pl2 pl3 pl4 pl5 pl6 pl7 pl8 er0 er1 sX4_forget_2 bk0 bk1 bk2 dr0 sh0 sh1 sh2 sh3 sh4 sh5 sh6 sh7 sh8 sp0 sp1 sp2 sp3 sp4 sp5 sp6 sp7 sp8) gX9_tear_X1_forget rfl (by decide +kernel) ⟨Nat.le_of_ble_eq_true rfl, Nat.le_of_ble_eq_true rfl⟩ 25 rfl rfl rfl rfl (Nat.le_of_ble_eq_true rfl) (Nat.zero_le _) (Nat.zero_le _) dX9_tear_27 ?_
  refine s_iload_n X (pc := 30) (x := er2 + bk2) 0 dX9_tear_30 rfl ?_
  exact s_iret X (pc := 31) (v := er2 + bk2) dX9_tear_31 rfl (by rw [show sX9_tear_o5_2 = sX4_forget_2 from rfl, show sX9_tear_o6_2 = sX1_forget_2 from rfl])

theorem iX9_judge_X9 : ∀ z ∈ wsX90, z ∈ wsX9_judge := fun z h => List.mem_cons_of_mem _ (List.mem_append_left _ (List.mem_append_left _ (List.mem_append_right _ h)))
theorem kX9_judge_54 : Cond.fieldLink RX9 54 "BathingCourt" (TX9 6).2.1 (TX9 6).2.2.1 ∈ wsX9_judge := List.mem_of_getElem? (i := 1) rfl
theorem kX9_judge_19 : Cond.fieldLink RX9 19 "BathingCourt" (TX9 1).2.1 (TX9 1).2.2.1 ∈ wsX9_judge := List.mem_of_getElem? (i := 2) rfl
def rX9_judge (dy3 bk0 bk1 : Nat → Int32) (bk2 : Int32) : Int32 := rX1_firstWrong bk0 bk1 bk2 dy3
set_option maxRecDepth 100000 in
set_option maxHeartbeats 4000000 in
theorem c_X9_judge (l : Launch) (G : GT) (AD : Nat → Nat → Nat) (rd0 : Nat → Int32) (rd1 rd2 rd3 rd4 : Int32) (dy0 dy1 dy2 dy3 dy4 : Nat → Int32) (dy5 : Int32) (pa0 : Nat → Int32) (pa1 pa2 : Int32) (im0 im1 im2 pl0 pl1 pl2 pl3 pl4 pl5 : Nat → Int32) (pl6 pl7 pl8 : Int32) (er0 er1 : Nat → Int32) (er2 : Int32) (bk0 bk1 : Nat → Int32) (bk2 dr0 : Int32) (sh0 sh1 sh2 sh3 sh4 sh5 : Nat → Int32) (sh6 sh7 sh8 : Int32) (sp0 sp1 sp2 sp3 sp4 sp5 : Nat → Int32) (sp6 sp7 sp8 : Int32) (b0 : 0 ≤ bk2) (b15 : bk2 ≤ 15) (hE : ∀ j : Nat, j < bk2.toNatClampNeg → vp_in (bk0 j) 5) : Ci l G yX9_judge wsX9_judge (rmL 1) [.ref (AD 10 0)] (wC G AD (AD 8 0) (AD 9 0) rd0 rd1 rd2 rd3 rd4 dy0 dy1 dy2 dy3 dy4 dy5 pa0 pa1 pa2 im0 im1 im2 pl0 pl1 pl2 pl3 pl4 pl5 pl6 pl7 pl8 er0 er1 er2 bk0 bk1 bk2 dr0 sh0 sh1 sh2 sh3 sh4 sh5 sh6 sh7 sh8 sp0 sp1 sp2 sp3 sp4 sp5 sp6 sp7 sp8) (rX9_judge dy3 bk0 bk1 bk2) (wC G AD (AD 8 0) (AD 9 0) rd0 rd1 rd2 rd3 rd4 dy0 dy1 dy2 dy3 dy4 dy5 pa0 pa1 pa2 im0 im1 im2 pl0 pl1 pl2 pl3 pl4 pl5 pl6 pl7 pl8 er0 er1 er2 bk0 bk1 bk2 dr0 sh0 sh1 sh2 sh3 sh4 sh5 sh6 sh7 sh8 sp0 sp1 sp2 sp3 sp4 sp5 sp6 sp7 sp8) := by
  refine ci_start .int (by decide) rfl rfl (Nat.le_of_ble_eq_true rfl) ?_
  intro p e s m args below meth c A X
  refine s_perm (lv2 := [(0, .ref (AD 10 0))]) [0] rfl ?_
  refine s_aload_n X (pc := 0) (x := (AD 10 0)) 0 dX9_judge_0 rfl ?_
  refine s_get X (pc := 1) (v := .ref (AD 6 0)) iX9_judge_X9 0 rfl rfl 6 (by decide) kX9_judge_54 rfl rfl dX9_judge_1 ?_
  refine s_aload_n X (pc := 4) (x := (AD 10 0)) 0 dX9_judge_4 rfl ?_
  refine s_get X (pc := 5) (v := .ref (AD 1 0)) iX9_judge_X9 0 rfl rfl 1 (by decide) kX9_judge_19 rfl rfl dX9_judge_5 ?_
  refine s_callVi0 X (pc := 8) (r := rX1_firstWrong bk0 bk1 bk2 dy3) (w := wC G AD (AD 8 0) (AD 9 0) rd0 rd1 rd2 rd3 rd4 dy0 dy1 dy2 dy3 dy4 dy5 pa0 pa1 pa2 im0 im1 im2 pl0 pl1 pl2 pl3 pl4 pl5 pl6 pl7 pl8 er0 er1 er2 bk0 bk1 bk2 dr0 sh0 sh1 sh2 sh3 sh4 sh5 sh6 sh7 sh8 sp0 sp1 sp2 sp3 sp4 sp5 sp6 sp7 sp8) (n := 1) (st := []) (As := [.ref (AD 1 0)]) (w2 := wC G AD (AD 8 0) (AD 9 0) rd0 rd1 rd2 rd3 rd4 dy0 dy1 dy2 dy3 dy4 dy5 pa0 pa1 pa2 im0 im1 im2 pl0 pl1 pl2 pl3 pl4 pl5 pl6 pl7 pl8 er0 er1 er2 bk0 bk1 bk2 dr0 sh0 sh1 sh2 sh3 sh4 sh5 sh6 sh7 sh8 sp0 sp1 sp2 sp3 sp4 sp5 sp6 sp7 sp8) 0 (c_L6_1_X1_firstWrong l G AD (AD 8 0) (AD 9 0) rd0 rd1 rd2 rd3 rd4 dy0 dy1 dy2 dy3 dy4 dy5 pa0 pa1 pa2 im0 im1 im2 pl0 pl1 pl2 pl3 pl4 pl5 pl6 pl7 pl8 er0 er1 er2 bk0 bk1 bk2 dr0 sh0 sh1 sh2 sh3 sh4 sh5 sh6 sh7 sh8 sp0 sp1 sp2 sp3 sp4 sp5 sp6 sp7 sp8 b0 b15 hE) gX9_judge_X1_firstWrong rfl (by decide +kernel) ⟨Nat.le_of_ble_eq_true rfl, Nat.le_of_ble_eq_true rfl⟩ 25 rfl rfl rfl rfl (Nat.le_of_ble_eq_true rfl) (Nat.zero_le _) (Nat.zero_le _) dX9_judge_8 ?_
  exact s_iret X (pc := 11) (v := rX1_firstWrong bk0 bk1 bk2 dy3) dX9_judge_11 rfl rfl

theorem iX9_seed_X3 : ∀ z ∈ wsX30, z ∈ wsX9_seed := fun z h => List.mem_cons_of_mem _ (List.mem_append_right _ h)
theorem iX9_seed_X9 : ∀ z ∈ wsX90, z ∈ wsX9_seed := fun z h => List.mem_cons_of_mem _ (List.mem_append_left _ (List.mem_append_right _ h))
theorem kX9_seed_61 : Cond.fieldLink RX9 61 "BathingCourt" (TX9 7).2.1 (TX9 7).2.2.1 ∈ wsX9_seed := List.mem_of_getElem? (i := 2) rfl
theorem kX9_seed_264 : Cond.fieldLink RX9 264 "BathingCourt$Draws" (TX3 0).2.1 (TX3 0).2.2.1 ∈ wsX9_seed := List.mem_of_getElem? (i := 3) rfl
theorem kX9_seed_c79 : Jvm.Cond.constant RX9 79 (-1000000002) ∈ wsX9_seed := List.mem_of_getElem? (i := 1) rfl
def rX9_seed (dr0 p0 : Int32) : Int32 := if 0 ≤ p0 then dr0 else (-1000000002 : Int32)
def sX9_seed_o7_0 (dr0 p0 : Int32) : Int32 := if 0 ≤ p0 then p0 else dr0
set_option maxRecDepth 100000 in
set_option maxHeartbeats 4000000 in
theorem c_X9_seed (l : Launch) (G : GT) (AD : Nat → Nat → Nat) (rd0 : Nat → Int32) (rd1 rd2 rd3 rd4 : Int32) (dy0 dy1 dy2 dy3 dy4 : Nat → Int32) (dy5 : Int32) (pa0 : Nat → Int32) (pa1 pa2 : Int32) (im0 im1 im2 pl0 pl1 pl2 pl3 pl4 pl5 : Nat → Int32) (pl6 pl7 pl8 : Int32) (er0 er1 : Nat → Int32) (er2 : Int32) (bk0 bk1 : Nat → Int32) (bk2 dr0 : Int32) (sh0 sh1 sh2 sh3 sh4 sh5 : Nat → Int32) (sh6 sh7 sh8 : Int32) (sp0 sp1 sp2 sp3 sp4 sp5 : Nat → Int32) (sp6 sp7 sp8 p0 : Int32) : Ci l G yX9_seed wsX9_seed (rmL 0) [.ref (AD 10 0), .int p0] (wC G AD (AD 8 0) (AD 9 0) rd0 rd1 rd2 rd3 rd4 dy0 dy1 dy2 dy3 dy4 dy5 pa0 pa1 pa2 im0 im1 im2 pl0 pl1 pl2 pl3 pl4 pl5 pl6 pl7 pl8 er0 er1 er2 bk0 bk1 bk2 dr0 sh0 sh1 sh2 sh3 sh4 sh5 sh6 sh7 sh8 sp0 sp1 sp2 sp3 sp4 sp5 sp6 sp7 sp8) (rX9_seed dr0 p0) (wC G AD (AD 8 0) (AD 9 0) rd0 rd1 rd2 rd3 rd4 dy0 dy1 dy2 dy3 dy4 dy5 pa0 pa1 pa2 im0 im1 im2 pl0 pl1 pl2 pl3 pl4 pl5 pl6 pl7 pl8 er0 er1 er2 bk0 bk1 bk2 (sX9_seed_o7_0 dr0 p0) sh0 sh1 sh2 sh3 sh4 sh5 sh6 sh7 sh8 sp0 sp1 sp2 sp3 sp4 sp5 sp6 sp7 sp8) := by
  refine ci_start .int (by decide) rfl rfl (Nat.le_of_ble_eq_true rfl) ?_
  intro p e s m args below meth c A X
  refine s_perm (lv2 := [(0, .ref (AD 10 0)), (1, .int p0)]) [0, 1] rfl ?_
  refine s_iload_n X (pc := 0) (x := p0) 1 dX9_seed_0 rfl ?_
  refine s_if_ge X (pc := 1) (tgt := 7) dX9_seed_1 (by decide) (fun c1 => ?_) (fun c1 => ?_)
  ·
    refine s_aload_n X (pc := 7) (x := (AD 10 0)) 0 dX9_seed_7 rfl ?_
    refine s_get X (pc := 8) (v := .ref (AD 7 0)) iX9_seed_X9 0 rfl rfl 7 (by decide) kX9_seed_61 rfl rfl dX9_seed_8 ?_
    refine s_get X (pc := 11) (v := .int dr0) iX9_seed_X3 28 rfl rfl 0 (by decide) kX9_seed_264 rfl rfl dX9_seed_11 ?_
    refine s_istore_n X (pc := 14) (i := 2) (lv2 := [(2, .int dr0), (0, .ref (AD 10 0)), (1, .int p0)]) dX9_seed_14 rfl (by decide) rfl ?_
    refine s_aload_n X (pc := 15) (x := (AD 10 0)) 1 dX9_seed_15 rfl ?_
    refine s_get X (pc := 16) (v := .ref (AD 7 0)) iX9_seed_X9 0 rfl rfl 7 (by decide) kX9_seed_61 rfl rfl dX9_seed_16 ?_
    refine s_iload_n X (pc := 19) (x := p0) 2 dX9_seed_19 rfl ?_
    refine s_put X (pc := 20) (v := .int p0) (w2 := wC G AD (AD 8 0) (AD 9 0) rd0 rd1 rd2 rd3 rd4 dy0 dy1 dy2 dy3 dy4 dy5 pa0 pa1 pa2 im0 im1 im2 pl0 pl1 pl2 pl3 pl4 pl5 pl6 pl7 pl8 er0 er1 er2 bk0 bk1 bk2 p0 sh0 sh1 sh2 sh3 sh4 sh5 sh6 sh7 sh8 sp0 sp1 sp2 sp3 sp4 sp5 sp6 sp7 sp8) iX9_seed_X3 28 rfl rfl 0 (by decide) kX9_seed_264 rfl tyX3 tyX3_ok nmX3 rfl (ty := .int) (by decide +kernel) rfl rfl (Nat.le_of_ble_eq_true rfl) rfl dX9_seed_20 ?_
    refine s_iload_n X (pc := 23) (x := dr0) 0 dX9_seed_23 rfl ?_
    exact s_iret X (pc := 24) (v := dr0) dX9_seed_24 (Eq.symm (show rX9_seed dr0 p0 = dr0 from (by unfold rX9_seed; exact (if_pos c1)))) (by rw [show sX9_seed_o7_0 dr0 p0 = p0 from (by unfold sX9_seed_o7_0; exact (if_pos c1))])
  ·
    refine s_ldc X (pc := 4) (v := -1000000002) kX9_seed_c79 dX9_seed_4 ?_
    exact s_iret X (pc := 6) (v := (-1000000002 : Int32)) dX9_seed_6 (Eq.symm (show rX9_seed dr0 p0 = (-1000000002 : Int32) from (by unfold rX9_seed; exact (if_neg c1)))) (by rw [show sX9_seed_o7_0 dr0 p0 = dr0 from (by unfold sX9_seed_o7_0; exact (if_neg c1))])

theorem iX9_keep_X3 : ∀ z ∈ wsX30, z ∈ wsX9_keep := fun z h => List.mem_cons_of_mem _ (List.mem_append_left _ (List.mem_append_left _ (List.mem_append_left _ (List.mem_append_right _ h))))
theorem iX9_keep_X9 : ∀ z ∈ wsX90, z ∈ wsX9_keep := fun z h => List.mem_cons_of_mem _ (List.mem_append_left _ (List.mem_append_left _ (List.mem_append_left _ (List.mem_append_left _ (List.mem_append_right _ h)))))
theorem kX9_keep_33 : Cond.fieldLink RX9 33 "BathingCourt" (TX9 3).2.1 (TX9 3).2.2.1 ∈ wsX9_keep := List.mem_of_getElem? (i := 2) rfl
theorem kX9_keep_19 : Cond.fieldLink RX9 19 "BathingCourt" (TX9 1).2.1 (TX9 1).2.2.1 ∈ wsX9_keep := List.mem_of_getElem? (i := 3) rfl
theorem kX9_keep_61 : Cond.fieldLink RX9 61 "BathingCourt" (TX9 7).2.1 (TX9 7).2.2.1 ∈ wsX9_keep := List.mem_of_getElem? (i := 4) rfl
theorem kX9_keep_264 : Cond.fieldLink RX9 264 "BathingCourt$Draws" (TX3 0).2.1 (TX3 0).2.2.1 ∈ wsX9_keep := List.mem_of_getElem? (i := 5) rfl
theorem kX9_keep_26 : Cond.fieldLink RX9 26 "BathingCourt" (TX9 2).2.1 (TX9 2).2.2.1 ∈ wsX9_keep := List.mem_of_getElem? (i := 6) rfl
theorem kX9_keep_c152 : Jvm.Cond.constant RX9 152 (-1000000001) ∈ wsX9_keep := List.mem_of_getElem? (i := 1) rfl
def rX9_keep (p0 : Int32) : Int32 := if (rX9_isNoImage p0) = 0 then (1 : Int32) else (-1000000001 : Int32)
def sX9_keep_o2_2 (pa2 p0 : Int32) : Int32 := if (rX9_isNoImage p0) = 0 then sX6_forget_2 else pa2
def sX9_keep_o3_0 (dy0 dy1 dy2 dy3 dy4 : Nat → Int32) (dy5 : Int32) (im0 : Nat → Int32) (p0 : Int32) : Nat → Int32 := if (rX9_isNoImage p0) = 0 then (sX5_take_0 im0 dy0 dy1 dy2 dy3 dy4 dy5 p0) else im0
def sX9_keep_o3_1 (im1 : Nat → Int32) (dr0 p0 : Int32) : Nat → Int32 := if (rX9_isNoImage p0) = 0 then (sX5_take_1 im1 p0 dr0) else im1
def sX9_keep_o3_2 (im2 : Nat → Int32) (p0 : Int32) : Nat → Int32 := if (rX9_isNoImage p0) = 0 then (sX5_take_2 im2 p0) else im2
set_option maxRecDepth 100000 in
set_option maxHeartbeats 4000000 in
theorem c_X9_keep (l : Launch) (G : GT) (AD : Nat → Nat → Nat) (rd0 : Nat → Int32) (rd1 rd2 rd3 rd4 : Int32) (dy0 dy1 dy2 dy3 dy4 : Nat → Int32) (dy5 : Int32) (pa0 : Nat → Int32) (pa1 pa2 : Int32) (im0 im1 im2 pl0 pl1 pl2 pl3 pl4 pl5 : Nat → Int32) (pl6 pl7 pl8 : Int32) (er0 er1 : Nat → Int32) (er2 : Int32) (bk0 bk1 : Nat → Int32) (bk2 dr0 : Int32) (sh0 sh1 sh2 sh3 sh4 sh5 : Nat → Int32) (sh6 sh7 sh8 : Int32) (sp0 sp1 sp2 sp3 sp4 sp5 : Nat → Int32) (sp6 sp7 sp8 p0 : Int32) : Ci l G yX9_keep wsX9_keep (rmL 2) [.ref (AD 10 0), .int p0] (wC G AD (AD 8 0) (AD 9 0) rd0 rd1 rd2 rd3 rd4 dy0 dy1 dy2 dy3 dy4 dy5 pa0 pa1 pa2 im0 im1 im2 pl0 pl1 pl2 pl3 pl4 pl5 pl6 pl7 pl8 er0 er1 er2 bk0 bk1 bk2 dr0 sh0 sh1 sh2 sh3 sh4 sh5 sh6 sh7 sh8 sp0 sp1 sp2 sp3 sp4 sp5 sp6 sp7 sp8) (rX9_keep p0) (wC G AD (AD 8 0) (AD 9 0) rd0 rd1 rd2 rd3 rd4 dy0 dy1 dy2 dy3 dy4 dy5 pa0 pa1 (sX9_keep_o2_2 pa2 p0) (sX9_keep_o3_0 dy0 dy1 dy2 dy3 dy4 dy5 im0 p0) (sX9_keep_o3_1 im1 dr0 p0) (sX9_keep_o3_2 im2 p0) pl0 pl1 pl2 pl3 pl4 pl5 pl6 pl7 pl8 er0 er1 er2 bk0 bk1 bk2 dr0 sh0 sh1 sh2 sh3 sh4 sh5 sh6 sh7 sh8 sp0 sp1 sp2 sp3 sp4 sp5 sp6 sp7 sp8) := by
  refine ci_start .int (by decide) rfl rfl (Nat.le_of_ble_eq_true rfl) ?_
  intro p e s m args below meth c A X
  refine s_perm (lv2 := [(0, .ref (AD 10 0)), (1, .int p0)]) [0, 1] rfl ?_
  refine s_iload_n X (pc := 0) (x := p0) 1 dX9_keep_0 rfl ?_
  refine s_callSiN X (pc := 1) (r := rX9_isNoImage p0) (n := 1) (st := []) (As := [.int p0]) 1 (c_X9_isNoImage l G p0) gX9_keep_X9_isNoImage rfl (by decide +kernel) ⟨Nat.le_of_ble_eq_true rfl, Nat.le_of_ble_eq_true rfl⟩ rfl rfl (Nat.le_of_ble_eq_true rfl) (Nat.zero_le _) (Nat.zero_le _) dX9_keep_1 ?_
  refine s_if_eq X (pc := 4) (tgt := 10) dX9_keep_4 (by decide) (fun c4 => ?_) (fun c4 => ?_)
  ·
    have q4 := isNI c4
    have v4 : vp_in p0 2 := vin (b := 2) rfl q4.1 (by grind)
    refine s_aload_n X (pc := 10) (x := (AD 10 0)) 0 dX9_keep_10 rfl ?_
    refine s_get X (pc := 11) (v := .ref (AD 3 0)) iX9_keep_X9 0 rfl rfl 3 (by decide) kX9_keep_33 rfl rfl dX9_keep_11 ?_
    refine s_iload_n X (pc := 14) (x := p0) 1 dX9_keep_14 rfl ?_
    refine s_aload_n X (pc := 15) (x := (AD 10 0)) 0 dX9_keep_15 rfl ?_
    refine s_get X (pc := 16) (v := .ref (AD 1 0)) iX9_keep_X9 0 rfl rfl 1 (by decide) kX9_keep_19 rfl rfl dX9_keep_16 ?_
    refine s_aload_n X (pc := 19) (x := (AD 10 0)) 0 dX9_keep_19 rfl ?_
    refine s_get X (pc := 20) (v := .ref (AD 7 0)) iX9_keep_X9 0 rfl rfl 7 (by decide) kX9_keep_61 rfl rfl dX9_keep_20 ?_
    refine s_get X (pc := 23) (v := .int dr0) iX9_keep_X3 28 rfl rfl 0 (by decide) kX9_keep_264 rfl rfl dX9_keep_23 ?_
    refine s_callVv0 X (pc := 26) (w := wC G AD (AD 8 0) (AD 9 0) rd0 rd1 rd2 rd3 rd4 dy0 dy1 dy2 dy3 dy4 dy5 pa0 pa1 pa2 im0 im1 im2 pl0 pl1 pl2 pl3 pl4 pl5 pl6 pl7 pl8 er0 er1 er2 bk0 bk1 bk2 dr0 sh0 sh1 sh2 sh3 sh4 sh5 sh6 sh7 sh8 sp0 sp1 sp2 sp3 sp4 sp5 sp6 sp7 sp8) (n := 3) (st := []) (As := [.int p0, .ref (AD 1 0), .int dr0]) (w2 := wC G AD (AD 8 0) (AD 9 0) rd0 rd1 rd2 rd3 rd4 dy0 dy1 dy2 dy3 dy4 dy5 pa0 pa1 pa2 (sX5_take_0 im0 dy0 dy1 dy2 dy3 dy4 dy5 p0) (sX5_take_1 im1 p0 dr0) (sX5_take_2 im2 p0) pl0 pl1 pl2 pl3 pl4 pl5 pl6 pl7 pl8 er0 er1 er2 bk0 bk1 bk2 dr0 sh0 sh1 sh2 sh3 sh4 sh5 sh6 sh7 sh8 sp0 sp1 sp2 sp3 sp4 sp5 sp6 sp7 sp8) 1 (c_L3_1_X5_take l G AD (AD 8 0) (AD 9 0) rd0 rd1 rd2 rd3 rd4 dy0 dy1 dy2 dy3 dy4 dy5 pa0 pa1 pa2 im0 im1 im2 pl0 pl1 pl2 pl3 pl4 pl5 pl6 pl7 pl8 er0 er1 er2 bk0 bk1 bk2 dr0 sh0 sh1 sh2 sh3 sh4 sh5 sh6 sh7 sh8 sp0 sp1 sp2 sp3 sp4 sp5 sp6 sp7 sp8 p0 dr0 v4) gX9_keep_X5_take rfl (by decide +kernel) ⟨Nat.le_of_ble_eq_true rfl, Nat.le_of_ble_eq_true rfl⟩ 11 rfl rfl rfl rfl (Nat.le_of_ble_eq_true rfl) (Nat.zero_le _) (Nat.zero_le _) dX9_keep_26 ?_
    refine s_aload_n X (pc := 29) (x := (AD 10 0)) 0 dX9_keep_29 rfl ?_
    refine s_get X (pc := 30) (v := .ref (AD 2 0)) iX9_keep_X9 0 rfl rfl 2 (by decide) kX9_keep_26 rfl rfl dX9_keep_30 ?_
    refine s_callVv0 X (pc := 33) (w := wC G AD (AD 8 0) (AD 9 0) rd0 rd1 rd2 rd3 rd4 dy0 dy1 dy2 dy3 dy4 dy5 pa0 pa1 pa2 (sX5_take_0 im0 dy0 dy1 dy2 dy3 dy4 dy5 p0) (sX5_take_1 im1 p0 dr0) (sX5_take_2 im2 p0) pl0 pl1 pl2 pl3 pl4 pl5 pl6 pl7 pl8 er0 er1 er2 bk0 bk1 bk2 dr0 sh0 sh1 sh2 sh3 sh4 sh5 sh6 sh7 sh8 sp0 sp1 sp2 sp3 sp4 sp5 sp6 sp7 sp8) (n := 0) (st := []) (As := []) (w2 := wC G AD (AD 8 0) (AD 9 0) rd0 rd1 rd2 rd3 rd4 dy0 dy1 dy2 dy3 dy4 dy5 pa0 pa1 sX6_forget_2 (sX5_take_0 im0 dy0 dy1 dy2 dy3 dy4 dy5 p0) (sX5_take_1 im1 p0 dr0) (sX5_take_2 im2 p0) pl0 pl1 pl2 pl3 pl4 pl5 pl6 pl7 pl8 er0 er1 er2 bk0 bk1 bk2 dr0 sh0 sh1 sh2 sh3 sh4 sh5 sh6 sh7 sh8 sp0 sp1 sp2 sp3 sp4 sp5 sp6 sp7 sp8) 0 (c_L2_X6_forget l G AD (AD 8 0) (AD 9 0) rd0 rd1 rd2 rd3 rd4 dy0 dy1 dy2 dy3 dy4 dy5 pa0 pa1 pa2 (sX5_take_0 im0 dy0 dy1 dy2 dy3 dy4 dy5 p0) (sX5_take_1 im1 p0 dr0) (sX5_take_2 im2 p0) pl0 pl1 pl2 pl3 pl4 pl5 pl6 pl7 pl8 er0 er1 er2 bk0 bk1 bk2 dr0 sh0 sh1 sh2 sh3 sh4 sh5 sh6 sh7 sh8 sp0 sp1 sp2 sp3 sp4 sp5 sp6 sp7 sp8) gX9_keep_X6_forget rfl (by decide +kernel) ⟨Nat.le_of_ble_eq_true rfl, Nat.le_of_ble_eq_true rfl⟩ 9 rfl rfl rfl rfl (Nat.le_of_ble_eq_true rfl) (Nat.zero_le _) (Nat.zero_le _) dX9_keep_33 ?_
    refine s_iconst X (pc := 36) (v := 1) dX9_keep_36 (by decide) ?_
    exact s_iret X (pc := 37) (v := (1 : Int32)) dX9_keep_37 (Eq.symm (show rX9_keep p0 = (1 : Int32) from (by unfold rX9_keep; exact (if_pos c4)))) (by rw [show sX9_keep_o2_2 pa2 p0 = sX6_forget_2 from (by unfold sX9_keep_o2_2; exact (if_pos c4)), show sX9_keep_o3_0 dy0 dy1 dy2 dy3 dy4 dy5 im0 p0 = sX5_take_0 im0 dy0 dy1 dy2 dy3 dy4 dy5 p0 from (by unfold sX9_keep_o3_0; exact (if_pos c4)), show sX9_keep_o3_1 im1 dr0 p0 = sX5_take_1 im1 p0 dr0 from (by unfold sX9_keep_o3_1; exact (if_pos c4)), show sX9_keep_o3_2 im2 p0 = sX5_take_2 im2 p0 from (by unfold sX9_keep_o3_2; exact (if_pos c4))])
  ·
    refine s_ldc X (pc := 7) (v := -1000000001) kX9_keep_c152 dX9_keep_7 ?_
    exact s_iret X (pc := 9) (v := (-1000000001 : Int32)) dX9_keep_9 (Eq.symm (show rX9_keep p0 = (-1000000001 : Int32) from (by unfold rX9_keep; exact (if_neg c4)))) (by rw [show sX9_keep_o2_2 pa2 p0 = pa2 from (by unfold sX9_keep_o2_2; exact (if_neg c4)), show sX9_keep_o3_0 dy0 dy1 dy2 dy3 dy4 dy5 im0 p0 = im0 from (by unfold sX9_keep_o3_0; exact (if_neg c4)), show sX9_keep_o3_1 im1 dr0 p0 = im1 from (by unfold sX9_keep_o3_1; exact (if_neg c4)), show sX9_keep_o3_2 im2 p0 = im2 from (by unfold sX9_keep_o3_2; exact (if_neg c4))])

theorem iX9_goBack_X3 : ∀ z ∈ wsX30, z ∈ wsX9_goBack := fun z h => List.mem_cons_of_mem _ (List.mem_append_left _ (List.mem_append_left _ (List.mem_append_right _ h)))
theorem iX9_goBack_X5 : ∀ z ∈ wsX50, z ∈ wsX9_goBack := fun z h => List.mem_cons_of_mem _ (List.mem_append_left _ (List.mem_append_left _ (List.mem_append_left _ (List.mem_append_right _ h))))
theorem iX9_goBack_X9 : ∀ z ∈ wsX90, z ∈ wsX9_goBack := fun z h => List.mem_cons_of_mem _ (List.mem_append_left _ (List.mem_append_left _ (List.mem_append_left _ (List.mem_append_left _ (List.mem_append_right _ h)))))
theorem kX9_goBack_33 : Cond.fieldLink RX9 33 "BathingCourt" (TX9 3).2.1 (TX9 3).2.2.1 ∈ wsX9_goBack := List.mem_of_getElem? (i := 2) rfl
theorem kX9_goBack_274 : Cond.fieldLink RX9 274 "BathingCourt$Images" (TX5 2).2.1 (TX5 2).2.2.1 ∈ wsX9_goBack := List.mem_of_getElem? (i := 3) rfl
theorem kX9_goBack_19 : Cond.fieldLink RX9 19 "BathingCourt" (TX9 1).2.1 (TX9 1).2.2.1 ∈ wsX9_goBack := List.mem_of_getElem? (i := 5) rfl
theorem kX9_goBack_61 : Cond.fieldLink RX9 61 "BathingCourt" (TX9 7).2.1 (TX9 7).2.2.1 ∈ wsX9_goBack := List.mem_of_getElem? (i := 6) rfl
theorem kX9_goBack_282 : Cond.fieldLink RX9 282 "BathingCourt$Images" (TX5 1).2.1 (TX5 1).2.2.1 ∈ wsX9_goBack := List.mem_of_getElem? (i := 7) rfl
theorem kX9_goBack_264 : Cond.fieldLink RX9 264 "BathingCourt$Draws" (TX3 0).2.1 (TX3 0).2.2.1 ∈ wsX9_goBack := List.mem_of_getElem? (i := 8) rfl
theorem kX9_goBack_26 : Cond.fieldLink RX9 26 "BathingCourt" (TX9 2).2.1 (TX9 2).2.2.1 ∈ wsX9_goBack := List.mem_of_getElem? (i := 9) rfl
theorem kX9_goBack_c145 : Jvm.Cond.constant RX9 145 (-1000000003) ∈ wsX9_goBack := List.mem_of_getElem? (i := 4) rfl
theorem kX9_goBack_c152 : Jvm.Cond.constant RX9 152 (-1000000001) ∈ wsX9_goBack := List.mem_of_getElem? (i := 1) rfl
def rX9_goBack (im2 : Nat → Int32) (p0 : Int32) : Int32 := if (rX9_isNoImage p0) = 0 then (if (im2 p0.toNatClampNeg) = 0 then (-1000000003 : Int32) else (1 : Int32)) else (-1000000001 : Int32)
def sX9_goBack_o1_0 (dy0 im0 im2 : Nat → Int32) (p0 : Int32) : Nat → Int32 := if (rX9_isNoImage p0) = 0 then (if (im2 p0.toNatClampNeg) = 0 then dy0 else (sX5_show_arg1_0 im0 dy0 p0)) else dy0
def sX9_goBack_o1_1 (dy1 im0 im2 : Nat → Int32) (p0 : Int32) : Nat → Int32 := if (rX9_isNoImage p0) = 0 then (if (im2 p0.toNatClampNeg) = 0 then dy1 else (sX5_show_arg1_1 im0 dy1 p0)) else dy1
def sX9_goBack_o1_2 (dy2 im0 im2 : Nat → Int32) (p0 : Int32) : Nat → Int32 := if (rX9_isNoImage p0) = 0 then (if (im2 p0.toNatClampNeg) = 0 then dy2 else (sX5_show_arg1_2 im0 dy2 p0)) else dy2
def sX9_goBack_o1_3 (dy3 im0 im2 : Nat → Int32) (p0 : Int32) : Nat → Int32 := if (rX9_isNoImage p0) = 0 then (if (im2 p0.toNatClampNeg) = 0 then dy3 else (sX5_show_arg1_3 im0 dy3 p0)) else dy3
def sX9_goBack_o1_4 (dy4 im0 im2 : Nat → Int32) (p0 : Int32) : Nat → Int32 := if (rX9_isNoImage p0) = 0 then (if (im2 p0.toNatClampNeg) = 0 then dy4 else (sX5_show_arg1_4 im0 dy4 p0)) else dy4
def sX9_goBack_o1_5 (dy5 : Int32) (im0 im2 : Nat → Int32) (p0 : Int32) : Int32 := if (rX9_isNoImage p0) = 0 then (if (im2 p0.toNatClampNeg) = 0 then dy5 else (sX5_show_arg1_5 im0 p0)) else dy5
def sX9_goBack_o2_2 (pa2 : Int32) (im2 : Nat → Int32) (p0 : Int32) : Int32 := if (rX9_isNoImage p0) = 0 then (if (im2 p0.toNatClampNeg) = 0 then pa2 else sX6_forget_2) else pa2
def sX9_goBack_o7_0 (im1 im2 : Nat → Int32) (dr0 p0 : Int32) : Int32 := if (rX9_isNoImage p0) = 0 then (if (im2 p0.toNatClampNeg) = 0 then dr0 else (im1 p0.toNatClampNeg)) else dr0
set_option maxRecDepth 100000 in
set_option maxHeartbeats 4000000 in
theorem c_X9_goBack (l : Launch) (G : GT) (AD : Nat → Nat → Nat) (rd0 : Nat → Int32) (rd1 rd2 rd3 rd4 : Int32) (dy0 dy1 dy2 dy3 dy4 : Nat → Int32) (dy5 : Int32) (pa0 : Nat → Int32) (pa1 pa2 : Int32) (im0 im1 im2 pl0 pl1 pl2 pl3 pl4 pl5 : Nat → Int32) (pl6 pl7 pl8 : Int32) (er0 er1 : Nat → Int32) (er2 : Int32) (bk0 bk1 : Nat → Int32) (bk2 dr0 : Int32) (sh0 sh1 sh2 sh3 sh4 sh5 : Nat → Int32) (sh6 sh7 sh8 : Int32) (sp0 sp1 sp2 sp3 sp4 sp5 : Nat → Int32) (sp6 sp7 sp8 p0 : Int32) : Ci l G yX9_goBack wsX9_goBack (rmL 2) [.ref (AD 10 0), .int p0] (wC G AD (AD 8 0) (AD 9 0) rd0 rd1 rd2 rd3 rd4 dy0 dy1 dy2 dy3 dy4 dy5 pa0 pa1 pa2 im0 im1 im2 pl0 pl1 pl2 pl3 pl4 pl5 pl6 pl7 pl8 er0 er1 er2 bk0 bk1 bk2 dr0 sh0 sh1 sh2 sh3 sh4 sh5 sh6 sh7 sh8 sp0 sp1 sp2 sp3 sp4 sp5 sp6 sp7 sp8) (rX9_goBack im2 p0) (wC G AD (AD 8 0) (AD 9 0) rd0 rd1 rd2 rd3 rd4 (sX9_goBack_o1_0 dy0 im0 im2 p0) (sX9_goBack_o1_1 dy1 im0 im2 p0) (sX9_goBack_o1_2 dy2 im0 im2 p0) (sX9_goBack_o1_3 dy3 im0 im2 p0) (sX9_goBack_o1_4 dy4 im0 im2 p0) (sX9_goBack_o1_5 dy5 im0 im2 p0) pa0 pa1 (sX9_goBack_o2_2 pa2 im2 p0) im0 im1 im2 pl0 pl1 pl2 pl3 pl4 pl5 pl6 pl7 pl8 er0 er1 er2 bk0 bk1 bk2 (sX9_goBack_o7_0 im1 im2 dr0 p0) sh0 sh1 sh2 sh3 sh4 sh5 sh6 sh7 sh8 sp0 sp1 sp2 sp3 sp4 sp5 sp6 sp7 sp8) := by
  refine ci_start .int (by decide) rfl rfl (Nat.le_of_ble_eq_true rfl) ?_
  intro p e s m args below meth c A X
  refine s_perm (lv2 := [(0, .ref (AD 10 0)), (1, .int p0)]) [0, 1] rfl ?_
  refine s_iload_n X (pc := 0) (x := p0) 1 dX9_goBack_0 rfl ?_
  refine s_callSiN X (pc := 1) (r := rX9_isNoImage p0) (n := 1) (st := []) (As := [.int p0]) 1 (c_X9_isNoImage l G p0) gX9_goBack_X9_isNoImage rfl (by decide +kernel) ⟨Nat.le_of_ble_eq_true rfl, Nat.le_of_ble_eq_true rfl⟩ rfl rfl (Nat.le_of_ble_eq_true rfl) (Nat.zero_le _) (Nat.zero_le _) dX9_goBack_1 ?_
  refine s_if_eq X (pc := 4) (tgt := 10) dX9_goBack_4 (by decide) (fun c4 => ?_) (fun c4 => ?_)
  ·
    have q4 := isNI c4
    have v4 : vp_in p0 2 := vin (b := 2) rfl q4.1 (by grind)
    refine s_aload_n X (pc := 10) (x := (AD 10 0)) 0 dX9_goBack_10 rfl ?_
    refine s_get X (pc := 11) (v := .ref (AD 3 0)) iX9_goBack_X9 0 rfl rfl 3 (by decide) kX9_goBack_33 rfl rfl dX9_goBack_11 ?_
    refine s_get X (pc := 14) (v := .ref ((AD 3) 3)) iX9_goBack_X5 11 rfl rfl 2 (by decide) kX9_goBack_274 rfl rfl dX9_goBack_14 ?_
    refine s_iload_n X (pc := 17) (x := p0) 1 dX9_goBack_17 rfl ?_
    refine s_zald X (pc := 18) (n := 2) (f := im2) 14 rfl v4 dX9_goBack_18 ?_
    refine s_if_ne X (pc := 19) (tgt := 25) dX9_goBack_19 (by decide) (fun c19 => ?_) (fun c19 => ?_)
    ·
      refine s_aload_n X (pc := 25) (x := (AD 10 0)) 0 dX9_goBack_25 rfl ?_
      refine s_get X (pc := 26) (v := .ref (AD 3 0)) iX9_goBack_X9 0 rfl rfl 3 (by decide) kX9_goBack_33 rfl rfl dX9_goBack_26 ?_
      refine s_iload_n X (pc := 29) (x := p0) 1 dX9_goBack_29 rfl ?_
      refine s_aload_n X (pc := 30) (x := (AD 10 0)) 0 dX9_goBack_30 rfl ?_
      refine s_get X (pc := 31) (v := .ref (AD 1 0)) iX9_goBack_X9 0 rfl rfl 1 (by decide) kX9_goBack_19 rfl rfl dX9_goBack_31 ?_
      refine s_callVv0 X (pc := 34) (w := wC G AD (AD 8 0) (AD 9 0) rd0 rd1 rd2 rd3 rd4 dy0 dy1 dy2 dy3 dy4 dy5 pa0 pa1 pa2 im0 im1 im2 pl0 pl1 pl2 pl3 pl4 pl5 pl6 pl7 pl8 er0 er1 er2 bk0 bk1 bk2 dr0 sh0 sh1 sh2 sh3 sh4 sh5 sh6 sh7 sh8 sp0 sp1 sp2 sp3 sp4 sp5 sp6 sp7 sp8) (n := 2) (st := []) (As := [.int p0, .ref (AD 1 0)]) (w2 := wC G AD (AD 8 0) (AD 9 0) rd0 rd1 rd2 rd3 rd4 (sX5_show_arg1_0 im0 dy0 p0) (sX5_show_arg1_1 im0 dy1 p0) (sX5_show_arg1_2 im0 dy2 p0) (sX5_show_arg1_3 im0 dy3 p0) (sX5_show_arg1_4 im0 dy4 p0) (sX5_show_arg1_5 im0 p0) pa0 pa1 pa2 im0 im1 im2 pl0 pl1 pl2 pl3 pl4 pl5 pl6 pl7 pl8 er0 er1 er2 bk0 bk1 bk2 dr0 sh0 sh1 sh2 sh3 sh4 sh5 sh6 sh7 sh8 sp0 sp1 sp2 sp3 sp4 sp5 sp6 sp7 sp8) 1 (c_L3_1_X5_show l G AD (AD 8 0) (AD 9 0) rd0 rd1 rd2 rd3 rd4 dy0 dy1 dy2 dy3 dy4 dy5 pa0 pa1 pa2 im0 im1 im2 pl0 pl1 pl2 pl3 pl4 pl5 pl6 pl7 pl8 er0 er1 er2 bk0 bk1 bk2 dr0 sh0 sh1 sh2 sh3 sh4 sh5 sh6 sh7 sh8 sp0 sp1 sp2 sp3 sp4 sp5 sp6 sp7 sp8 p0 v4) gX9_goBack_X5_show rfl (by decide +kernel) ⟨Nat.le_of_ble_eq_true rfl, Nat.le_of_ble_eq_true rfl⟩ 11 rfl rfl rfl rfl (Nat.le_of_ble_eq_true rfl) (Nat.zero_le _) (Nat.zero_le _) dX9_goBack_34 ?_
      refine s_aload_n X (pc := 37) (x := (AD 10 0)) 0 dX9_goBack_37 rfl ?_
      refine s_get X (pc := 38) (v := .ref (AD 7 0)) iX9_goBack_X9 0 rfl rfl 7 (by decide) kX9_goBack_61 rfl rfl dX9_goBack_38 ?_
      refine s_aload_n X (pc := 41) (x := (AD 10 0)) 0 dX9_goBack_41 rfl ?_
      refine s_get X (pc := 42) (v := .ref (AD 3 0)) iX9_goBack_X9 0 rfl rfl 3 (by decide) kX9_goBack_33 rfl rfl dX9_goBack_42 ?_
      refine s_get X (pc := 45) (v := .ref ((AD 3) 2)) iX9_goBack_X5 11 rfl rfl 1 (by decide) kX9_goBack_282 rfl rfl dX9_goBack_45 ?_
      refine s_iload_n X (pc := 48) (x := p0) 1 dX9_goBack_48 rfl ?_
      refine s_iald X (pc := 49) (n := 2) (f := im1) 13 rfl v4 dX9_goBack_49 ?_
      refine s_put X (pc := 50) (v := .int (im1 p0.toNatClampNeg)) (w2 := wC G AD (AD 8 0) (AD 9 0) rd0 rd1 rd2 rd3 rd4 (sX5_show_arg1_0 im0 dy0 p0) (sX5_show_arg1_1 im0 dy1 p0) (sX5_show_arg1_2 im0 dy2 p0) (sX5_show_arg1_3 im0 dy3 p0) (sX5_show_arg1_4 im0 dy4 p0) (sX5_show_arg1_5 im0 p0) pa0 pa1 pa2 im0 im1 im2 pl0 pl1 pl2 pl3 pl4 pl5 pl6 pl7 pl8 er0 er1 er2 bk0 bk1 bk2 (im1 p0.toNatClampNeg) sh0 sh1 sh2 sh3 sh4 sh5 sh6 sh7 sh8 sp0 sp1 sp2 sp3 sp4 sp5 sp6 sp7 sp8) iX9_goBack_X3 28 rfl rfl 0 (by decide) kX9_goBack_264 rfl tyX3 tyX3_ok nmX3 rfl (ty := .int) (by decide +kernel) rfl rfl (Nat.le_of_ble_eq_true rfl) rfl dX9_goBack_50 ?_
      refine s_aload_n X (pc := 53) (x := (AD 10 0)) 0 dX9_goBack_53 rfl ?_
      refine s_get X (pc := 54) (v := .ref (AD 2 0)) iX9_goBack_X9 0 rfl rfl 2 (by decide) kX9_goBack_26 rfl rfl dX9_goBack_54 ?_
      refine s_callVv0 X (pc := 57) (w := wC G AD (AD 8 0) (AD 9 0) rd0 rd1 rd2 rd3 rd4 (sX5_show_arg1_0 im0 dy0 p0) (sX5_show_arg1_1 im0 dy1 p0) (sX5_show_arg1_2 im0 dy2 p0) (sX5_show_arg1_3 im0 dy3 p0) (sX5_show_arg1_4 im0 dy4 p0) (sX5_show_arg1_5 im0 p0) pa0 pa1 pa2 im0 im1 im2 pl0 pl1 pl2 pl3 pl4 pl5 pl6 pl7 pl8 er0 er1 er2 bk0 bk1 bk2 (im1 p0.toNatClampNeg) sh0 sh1 sh2 sh3 sh4 sh5 sh6 sh7 sh8 sp0 sp1 sp2 sp3 sp4 sp5 sp6 sp7 sp8) (n := 0) (st := []) (As := []) (w2 := wC G AD (AD 8 0) (AD 9 0) rd0 rd1 rd2 rd3 rd4 (sX5_show_arg1_0 im0 dy0 p0) (sX5_show_arg1_1 im0 dy1 p0) (sX5_show_arg1_2 im0 dy2 p0) (sX5_show_arg1_3 im0 dy3 p0) (sX5_show_arg1_4 im0 dy4 p0) (sX5_show_arg1_5 im0 p0) pa0 pa1 sX6_forget_2 im0 im1 im2 pl0 pl1 pl2 pl3 pl4 pl5 pl6 pl7 pl8 er0 er1 er2 bk0 bk1 bk2 (im1 p0.toNatClampNeg) sh0 sh1 sh2 sh3 sh4 sh5 sh6 sh7 sh8 sp0 sp1 sp2 sp3 sp4 sp5 sp6 sp7 sp8) 0 (c_L2_X6_forget l G AD (AD 8 0) (AD 9 0) rd0 rd1 rd2 rd3 rd4 (sX5_show_arg1_0 im0 dy0 p0) (sX5_show_arg1_1 im0 dy1 p0) (sX5_show_arg1_2 im0 dy2 p0) (sX5_show_arg1_3 im0 dy3 p0) (sX5_show_arg1_4 im0 dy4 p0) (sX5_show_arg1_5 im0 p0) pa0 pa1 pa2 im0 im1 im2 pl0 pl1 pl2 pl3 pl4 pl5 pl6 pl7 pl8 er0 er1 er2 bk0 bk1 bk2 (im1 p0.toNatClampNeg) sh0 sh1 sh2 sh3 sh4 sh5 sh6 sh7 sh8 sp0 sp1 sp2 sp3 sp4 sp5 sp6 sp7 sp8) gX9_goBack_X6_forget rfl (by decide +kernel) ⟨Nat.le_of_ble_eq_true rfl, Nat.le_of_ble_eq_true rfl⟩ 9 rfl rfl rfl rfl (Nat.le_of_ble_eq_true rfl) (Nat.zero_le _) (Nat.zero_le _) dX9_goBack_57 ?_
      refine s_iconst X (pc := 60) (v := 1) dX9_goBack_60 (by decide) ?_
      exact s_iret X (pc := 61) (v := (1 : Int32)) dX9_goBack_61 (Eq.symm (show rX9_goBack im2 p0 = (1 : Int32) from (by unfold rX9_goBack; exact ((if_pos c4).trans (if_neg c19))))) (by rw [show sX9_goBack_o1_0 dy0 im0 im2 p0 = sX5_show_arg1_0 im0 dy0 p0 from (by unfold sX9_goBack_o1_0; exact ((if_pos c4).trans (if_neg c19))), show sX9_goBack_o1_1 dy1 im0 im2 p0 = sX5_show_arg1_1 im0 dy1 p0 from (by unfold sX9_goBack_o1_1; exact ((if_pos c4).trans (if_neg c19))), show sX9_goBack_o1_2 dy2 im0 im2 p0 = sX5_show_arg1_2 im0 dy2 p0 from (by unfold sX9_goBack_o1_2; exact ((if_pos c4).trans (if_neg c19))), show sX9_goBack_o1_3 dy3 im0 im2 p0 = sX5_show_arg1_3 im0 dy3 p0 from (by unfold sX9_goBack_o1_3; exact ((if_pos c4).trans (if_neg c19))), show sX9_goBack_o1_4 dy4 im0 im2 p0 = sX5_show_arg1_4 im0 dy4 p0 from (by unfold sX9_goBack_o1_4; exact ((if_pos c4).trans (if_neg c19))), show sX9_goBack_o1_5 dy5 im0 im2 p0 = sX5_show_arg1_5 im0 p0 from (by unfold sX9_goBack_o1_5; exact ((if_pos c4).trans (if_neg c19))), show sX9_goBack_o2_2 pa2 im2 p0 = sX6_forget_2 from (by unfold sX9_goBack_o2_2; exact ((if_pos c4).trans (if_neg c19))), show sX9_goBack_o7_0 im1 im2 dr0 p0 = im1 p0.toNatClampNeg from (by unfold sX9_goBack_o7_0; exact ((if_pos c4).trans (if_neg c19)))])
    ·
      refine s_ldc X (pc := 22) (v := -1000000003) kX9_goBack_c145 dX9_goBack_22 ?_
      exact s_iret X (pc := 24) (v := (-1000000003 : Int32)) dX9_goBack_24 (Eq.symm (show rX9_goBack im2 p0 = (-1000000003 : Int32) from (by unfold rX9_goBack; exact ((if_pos c4).trans (if_pos c19))))) (by rw [show sX9_goBack_o1_0 dy0 im0 im2 p0 = dy0 from (by unfold sX9_goBack_o1_0; exact ((if_pos c4).trans (if_pos c19))), show sX9_goBack_o1_1 dy1 im0 im2 p0 = dy1 from (by unfold sX9_goBack_o1_1; exact ((if_pos c4).trans (if_pos c19))), show sX9_goBack_o1_2 dy2 im0 im2 p0 = dy2 from (by unfold sX9_goBack_o1_2; exact ((if_pos c4).trans (if_pos c19))), show sX9_goBack_o1_3 dy3 im0 im2 p0 = dy3 from (by unfold sX9_goBack_o1_3; exact ((if_pos c4).trans (if_pos c19))), show sX9_goBack_o1_4 dy4 im0 im2 p0 = dy4 from (by unfold sX9_goBack_o1_4; exact ((if_pos c4).trans (if_pos c19))), show sX9_goBack_o1_5 dy5 im0 im2 p0 = dy5 from (by unfold sX9_goBack_o1_5; exact ((if_pos c4).trans (if_pos c19))), show sX9_goBack_o2_2 pa2 im2 p0 = pa2 from (by unfold sX9_goBack_o2_2; exact ((if_pos c4).trans (if_pos c19))), show sX9_goBack_o7_0 im1 im2 dr0 p0 = dr0 from (by unfold sX9_goBack_o7_0; exact ((if_pos c4).trans (if_pos c19)))])
  ·
    refine s_ldc X (pc := 7) (v := -1000000001) kX9_goBack_c152 dX9_goBack_7 ?_
    exact s_iret X (pc := 9) (v := (-1000000001 : Int32)) dX9_goBack_9 (Eq.symm (show rX9_goBack im2 p0 = (-1000000001 : Int32) from (by unfold rX9_goBack; exact (if_neg c4)))) (by rw [show sX9_goBack_o1_0 dy0 im0 im2 p0 = dy0 from (by unfold sX9_goBack_o1_0; exact (if_neg c4)), show sX9_goBack_o1_1 dy1 im0 im2 p0 = dy1 from (by unfold sX9_goBack_o1_1; exact (if_neg c4)), show sX9_goBack_o1_2 dy2 im0 im2 p0 = dy2 from (by unfold sX9_goBack_o1_2; exact (if_neg c4)), show sX9_goBack_o1_3 dy3 im0 im2 p0 = dy3 from (by unfold sX9_goBack_o1_3; exact (if_neg c4)), show sX9_goBack_o1_4 dy4 im0 im2 p0 = dy4 from (by unfold sX9_goBack_o1_4; exact (if_neg c4)), show sX9_goBack_o1_5 dy5 im0 im2 p0 = dy5 from (by unfold sX9_goBack_o1_5; exact (if_neg c4)), show sX9_goBack_o2_2 pa2 im2 p0 = pa2 from (by unfold sX9_goBack_o2_2; exact (if_neg c4)), show sX9_goBack_o7_0 im1 im2 dr0 p0 = dr0 from (by unfold sX9_goBack_o7_0; exact (if_neg c4))])
