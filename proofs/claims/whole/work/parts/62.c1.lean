theorem pm3 (p d q a u b t : va_W) : (p ++ (d ++ (q ++ (a ++ (u ++ (b ++ t)))))).Perm (((a ++ b) ++ d) ++ (p ++ (q ++ (u ++ t)))) := by
  refine (pm1 p d _).trans ?_
  have h := pm2 (p ++ q) a u b t
  rw [List.append_assoc, List.append_assoc p q] at h
  refine (List.Perm.append_left d h).trans ?_
  rw [← List.append_assoc]
  exact List.Perm.append_right _ List.perm_append_comm

theorem c_L4_8_1_X7_search (l : Launch) (G : GT) (AD : Nat → Nat → Nat) (c8 c9 : Nat) (rd0 : Nat → Int32) (rd1 rd2 rd3 rd4 : Int32) (dy0 dy1 dy2 dy3 dy4 : Nat → Int32) (dy5 : Int32) (pa0 : Nat → Int32) (pa1 pa2 : Int32) (im0 im1 im2 pl0 pl1 pl2 pl3 pl4 pl5 : Nat → Int32) (pl6 pl7 pl8 : Int32) (er0 er1 : Nat → Int32) (er2 : Int32) (bk0 bk1 : Nat → Int32) (bk2 dr0 : Int32) (sh0 sh1 sh2 sh3 sh4 sh5 : Nat → Int32) (sh6 sh7 sh8 : Int32) (sp0 sp1 sp2 sp3 sp4 sp5 : Nat → Int32) (sp6 sp7 sp8 p0 : Int32) (hT : sh6 ≤ 12) (h5 : sh8 ≤ 5) (hL : ∀ j : Nat, j < 5 → ¬ rX0_hasCase sh8 (nI j) = 0 → 1 ≤ sh3 j ∧ sh3 j ≤ 4) (hm : 0 < p0) : Cv l G yX7_search wsX7_search (rmL 8) [.ref (AD 4 0), .ref (AD 8 0), .ref (AD 1 0), .int p0] (wC G AD c8 c9 rd0 rd1 rd2 rd3 rd4 dy0 dy1 dy2 dy3 dy4 dy5 pa0 pa1 pa2 im0 im1 im2 pl0 pl1 pl2 pl3 pl4 pl5 pl6 pl7 pl8 er0 er1 er2 bk0 bk1 bk2 dr0 sh0 sh1 sh2 sh3 sh4 sh5 sh6 sh7 sh8 sp0 sp1 sp2 sp3 sp4 sp5 sp6 sp7 sp8) (wC G AD c8 c9 rd0 rd1 rd2 rd3 rd4 dy0 dy1 dy2 dy3 dy4 dy5 pa0 pa1 pa2 im0 im1 im2 (sX7_search_0 pl0 pl1 pl2 sh0 sh2 sh3 sh4 sh6 sh8 dy3 dy5) (sX7_search_1 pl0 pl1 pl2 sh0 sh2 sh3 sh4 sh6 sh8 dy3 dy5) (sX7_search_2 pl0 pl1 pl2 sh0 sh2 sh3 sh4 sh6 sh8 dy3 dy5) (sX7_search_3 pl0 pl1 pl2 pl3 pl4 pl5 sh0 sh2 sh3 sh4 sh6 sh8 dy3 dy5 p0) (sX7_search_4 pl0 pl1 pl2 pl3 pl4 pl5 sh0 sh2 sh3 sh4 sh6 sh8 dy3 dy5 p0) (sX7_search_5 pl0 pl1 pl2 pl3 pl4 pl5 sh0 sh2 sh3 sh4 sh6 sh8 dy3 dy5 p0) (sX7_search_6 p0) (sX7_search_7 pl0 pl1 pl2 sh0 sh2 sh3 sh4 sh6 sh8 dy3 dy5 p0) (sX7_search_8 pl0 pl1 pl2 pl3 pl4 pl5 sh0 sh2 sh3 sh4 sh6 sh8 dy3 dy5 p0) er0 er1 er2 bk0 bk1 bk2 dr0 sh0 sh1 sh2 sh3 sh4 sh5 sh6 sh7 sh8 sp0 sp1 sp2 sp3 sp4 sp5 sp6 sp7 sp8) :=
  cv_fr (pm3 ([(AD 10 0, .inr (9, [.ref (AD 0 0), .ref (AD 1 0), .ref (AD 2 0), .ref (AD 3 0), .ref (AD 4 0), .ref (AD 5 0), .ref (AD 6 0), .ref (AD 7 0), .ref c8, .ref c9]))] ++ (wX8 G (AD 0) rd0 rd1 rd2 rd3 rd4)) (wX2 G (AD 1) dy0 dy1 dy2 dy3 dy4 dy5) (wX6 G (AD 2) pa0 pa1 pa2 ++ (wX5 G (AD 3) im0 im1 im2)) (wX7 G (AD 4) pl0 pl1 pl2 pl3 pl4 pl5 pl6 pl7 pl8) (wX4 G (AD 5) er0 er1 er2 ++ (wX1 G (AD 6) bk0 bk1 bk2 ++ (wX3 G (AD 7) dr0))) (wX0 G (AD 8) sh0 sh1 sh2 sh3 sh4 sh5 sh6 sh7 sh8) (wX0 G (AD 9) sp0 sp1 sp2 sp3 sp4 sp5 sp6 sp7 sp8)) (pm3 ([(AD 10 0, .inr (9, [.ref (AD 0 0), .ref (AD 1 0), .ref (AD 2 0), .ref (AD 3 0), .ref (AD 4 0), .ref (AD 5 0), .ref (AD 6 0), .ref (AD 7 0), .ref c8, .ref c9]))] ++ (wX8 G (AD 0) rd0 rd1 rd2 rd3 rd4)) (wX2 G (AD 1) dy0 dy1 dy2 dy3 dy4 dy5) (wX6 G (AD 2) pa0 pa1 pa2 ++ (wX5 G (AD 3) im0 im1 im2)) (wX7 G (AD 4) (sX7_search_0 pl0 pl1 pl2 sh0 sh2 sh3 sh4 sh6 sh8 dy3 dy5) (sX7_search_1 pl0 pl1 pl2 sh0 sh2 sh3 sh4 sh6 sh8 dy3 dy5) (sX7_search_2 pl0 pl1 pl2 sh0 sh2 sh3 sh4 sh6 sh8 dy3 dy5) (sX7_search_3 pl0 pl1 pl2 pl3 pl4 pl5 sh0 sh2 sh3 sh4 sh6 sh8 dy3 dy5 p0) (sX7_search_4 pl0 pl1 pl2 pl3 pl4 pl5 sh0 sh2 sh3 sh4 sh6 sh8 dy3 dy5 p0) (sX7_search_5 pl0 pl1 pl2 pl3 pl4 pl5 sh0 sh2 sh3 sh4 sh6 sh8 dy3 dy5 p0) (sX7_search_6 p0) (sX7_search_7 pl0 pl1 pl2 sh0 sh2 sh3 sh4 sh6 sh8 dy3 dy5 p0) (sX7_search_8 pl0 pl1 pl2 pl3 pl4 pl5 sh0 sh2 sh3 sh4 sh6 sh8 dy3 dy5 p0)) (wX4 G (AD 5) er0 er1 er2 ++ (wX1 G (AD 6) bk0 bk1 bk2 ++ (wX3 G (AD 7) dr0))) (wX0 G (AD 8) sh0 sh1 sh2 sh3 sh4 sh5 sh6 sh7 sh8) (wX0 G (AD 9) sp0 sp1 sp2 sp3 sp4 sp5 sp6 sp7 sp8)) [AD 4 0, AD 4 1, AD 4 2, AD 4 3, AD 4 4, AD 4 5, AD 4 6, AD 8 0, AD 8 1, AD 8 2, AD 8 3, AD 8 4, AD 8 5, AD 8 6, AD 1 0, AD 1 1, AD 1 2, AD 1 3, AD 1 4, AD 1 5] rfl rfl (c_X7_search l G (AD 4) (AD 8) (AD 1) pl0 pl1 pl2 pl3 pl4 pl5 pl6 pl7 pl8 sh0 sh1 sh2 sh3 sh4 sh5 sh6 sh7 sh8 dy0 dy1 dy2 dy3 dy4 dy5 p0 hT h5 hL hm)

def rX9_isOutside (p0 p1 p2 : Int32) : Int32 := if p0 < p1 then (1 : Int32) else (if p0 ≤ p2 then (0 : Int32) else (1 : Int32))
set_option maxRecDepth 100000 in
set_option maxHeartbeats 4000000 in
theorem c_X9_isOutside (l : Launch) (G : GT) (p0 p1 p2 : Int32) : Ci l G yX9_isOutside wsX9_isOutside (rmL 0) [.int p0, .int p1, .int p2] ([]) (rX9_isOutside p0 p1 p2) ([]) := by
  refine ci_start .boolean (by decide) rfl rfl (Nat.le_of_ble_eq_true rfl) ?_
  intro p e s m args below meth c A X
  refine s_perm (lv2 := [(0, .int p0), (1, .int p1), (2, .int p2)]) [0, 1, 2] rfl ?_
  refine s_iload_n X (pc := 0) (x := p0) 0 dX9_isOutside_0 rfl ?_
  refine s_iload_n X (pc := 1) (x := p1) 1 dX9_isOutside_1 rfl ?_
  refine s_icmp_lt X (pc := 2) (tgt := 10) dX9_isOutside_2 (by decide) (fun c2 => ?_) (fun c2 => ?_)
  ·
    refine s_iconst X (pc := 10) (v := 1) dX9_isOutside_10 (by decide) ?_
    refine s_goto X (pc := 11) (tgt := 15) dX9_isOutside_11 (by decide) ?_
    exact s_zret X (pc := 15) (v := (1 : Int32)) (Or.inr rfl) dX9_isOutside_15 (Eq.symm (show rX9_isOutside p0 p1 p2 = (1 : Int32) from (by unfold rX9_isOutside; exact (if_pos c2)))) rfl
  ·
    refine s_iload_n X (pc := 5) (x := p0) 0 dX9_isOutside_5 rfl ?_
    refine s_iload_n X (pc := 6) (x := p2) 2 dX9_isOutside_6 rfl ?_
    refine s_icmp_le X (pc := 7) (tgt := 14) dX9_isOutside_7 (by decide) (fun c7 => ?_) (fun c7 => ?_)
    ·
      refine s_iconst X (pc := 14) (v := 0) dX9_isOutside_14 (by decide) ?_
      exact s_zret X (pc := 15) (v := (0 : Int32)) (Or.inl rfl) dX9_isOutside_15 (Eq.symm (show rX9_isOutside p0 p1 p2 = (0 : Int32) from (by unfold rX9_isOutside; exact ((if_neg c2).trans (if_pos c7))))) rfl
    ·
      refine s_iconst X (pc := 10) (v := 1) dX9_isOutside_10 (by decide) ?_
      refine s_goto X (pc := 11) (tgt := 15) dX9_isOutside_11 (by decide) ?_
      exact s_zret X (pc := 15) (v := (1 : Int32)) (Or.inr rfl) dX9_isOutside_15 (Eq.symm (show rX9_isOutside p0 p1 p2 = (1 : Int32) from (by unfold rX9_isOutside; exact ((if_neg c2).trans (if_neg c7))))) rfl
theorem bX9_isOutside (p0 p1 p2 : Int32) : rX9_isOutside p0 p1 p2 = 0 ∨ rX9_isOutside p0 p1 p2 = 1 := by
  unfold rX9_isOutside
  repeat' split
  all_goals first | exact Or.inl rfl | exact Or.inr rfl

theorem isO {x a b : Int32} : rX9_isOutside x a b = 0 ↔ (a ≤ x ∧ x ≤ b) := by
  unfold rX9_isOutside
  split
  · rename_i q
    exact ⟨fun h => absurd h (by decide), fun h => absurd (Int32.not_lt.mpr h.1) (not_not_intro q)⟩
  · rename_i q
    split
    · rename_i q2
      exact ⟨fun _ => ⟨Int32.not_lt.mp q, q2⟩, fun _ => rfl⟩
    · rename_i q2
      exact ⟨fun h => absurd h (by decide), fun h => absurd h.2 q2⟩

def rX9_isNoCell (p0 : Int32) : Int32 := rX9_isOutside p0 (0 : Int32) (9 : Int32)
set_option maxRecDepth 100000 in
set_option maxHeartbeats 4000000 in
theorem c_X9_isNoCell (l : Launch) (G : GT) (p0 : Int32) : Ci l G yX9_isNoCell wsX9_isNoCell (rmL 1) [.int p0] ([]) (rX9_isNoCell p0) ([]) := by
  refine ci_start .boolean (by decide) rfl rfl (Nat.le_of_ble_eq_true rfl) ?_
  intro p e s m args below meth c A X
  refine s_perm (lv2 := [(0, .int p0)]) [0] rfl ?_
  refine s_iload_n X (pc := 0) (x := p0) 0 dX9_isNoCell_0 rfl ?_
  refine s_iconst X (pc := 1) (v := 0) dX9_isNoCell_1 (by decide) ?_
  refine s_bipush X (pc := 2) (v := 9) dX9_isNoCell_2 (by decide) ?_
  refine s_callSiN X (pc := 4) (r := rX9_isOutside p0 (0 : Int32) (9 : Int32)) (n := 3) (st := []) (As := [.int p0, .int (0 : Int32), .int (9 : Int32)]) 0 (c_X9_isOutside l G p0 (0 : Int32) (9 : Int32)) gX9_isNoCell_X9_isOutside rfl (by decide +kernel) ⟨Nat.le_of_ble_eq_true rfl, Nat.le_of_ble_eq_true rfl⟩ rfl rfl (Nat.le_of_ble_eq_true rfl) (Nat.zero_le _) (Nat.zero_le _) dX9_isNoCell_4 ?_
  exact s_zret X (pc := 7) (v := rX9_isOutside p0 (0 : Int32) (9 : Int32)) (bX9_isOutside _ _ _) dX9_isNoCell_7 rfl rfl
theorem bX9_isNoCell (p0 : Int32) : rX9_isNoCell p0 = 0 ∨ rX9_isNoCell p0 = 1 := by
  unfold rX9_isNoCell
  repeat' split
  all_goals first | exact Or.inl rfl | exact Or.inr rfl | exact bX9_isOutside _ _ _

def rX9_isNoDepth (p0 : Int32) : Int32 := rX9_isOutside p0 (0 : Int32) (10 : Int32)
set_option maxRecDepth 100000 in
set_option maxHeartbeats 4000000 in
theorem c_X9_isNoDepth (l : Launch) (G : GT) (p0 : Int32) : Ci l G yX9_isNoDepth wsX9_isNoDepth (rmL 1) [.int p0] ([]) (rX9_isNoDepth p0) ([]) := by
  refine ci_start .boolean (by decide) rfl rfl (Nat.le_of_ble_eq_true rfl) ?_
  intro p e s m args below meth c A X
  refine s_perm (lv2 := [(0, .int p0)]) [0] rfl ?_
  refine s_iload_n X (pc := 0) (x := p0) 0 dX9_isNoDepth_0 rfl ?_
  refine s_iconst X (pc := 1) (v := 0) dX9_isNoDepth_1 (by decide) ?_
  refine s_bipush X (pc := 2) (v := 10) dX9_isNoDepth_2 (by decide) ?_
  refine s_callSiN X (pc := 4) (r := rX9_isOutside p0 (0 : Int32) (10 : Int32)) (n := 3) (st := []) (As := [.int p0, .int (0 : Int32), .int (10 : Int32)]) 0 (c_X9_isOutside l G p0 (0 : Int32) (10 : Int32)) gX9_isNoDepth_X9_isOutside rfl (by decide +kernel) ⟨Nat.le_of_ble_eq_true rfl, Nat.le_of_ble_eq_true rfl⟩ rfl rfl (Nat.le_of_ble_eq_true rfl) (Nat.zero_le _) (Nat.zero_le _) dX9_isNoDepth_4 ?_
  exact s_zret X (pc := 7) (v := rX9_isOutside p0 (0 : Int32) (10 : Int32)) (bX9_isOutside _ _ _) dX9_isNoDepth_7 rfl rfl
theorem bX9_isNoDepth (p0 : Int32) : rX9_isNoDepth p0 = 0 ∨ rX9_isNoDepth p0 = 1 := by
  unfold rX9_isNoDepth
  repeat' split
  all_goals first | exact Or.inl rfl | exact Or.inr rfl | exact bX9_isOutside _ _ _

def rX9_isNoImage (p0 : Int32) : Int32 := rX9_isOutside p0 (0 : Int32) (1 : Int32)
set_option maxRecDepth 100000 in
set_option maxHeartbeats 4000000 in
theorem c_X9_isNoImage (l : Launch) (G : GT) (p0 : Int32) : Ci l G yX9_isNoImage wsX9_isNoImage (rmL 1) [.int p0] ([]) (rX9_isNoImage p0) ([]) := by
  refine ci_start .boolean (by decide) rfl rfl (Nat.le_of_ble_eq_true rfl) ?_
  intro p e s m args below meth c A X
  refine s_perm (lv2 := [(0, .int p0)]) [0] rfl ?_
  refine s_iload_n X (pc := 0) (x := p0) 0 dX9_isNoImage_0 rfl ?_
  refine s_iconst X (pc := 1) (v := 0) dX9_isNoImage_1 (by decide) ?_
  refine s_iconst X (pc := 2) (v := 1) dX9_isNoImage_2 (by decide) ?_
  refine s_callSiN X (pc := 3) (r := rX9_isOutside p0 (0 : Int32) (1 : Int32)) (n := 3) (st := []) (As := [.int p0, .int (0 : Int32), .int (1 : Int32)]) 0 (c_X9_isOutside l G p0 (0 : Int32) (1 : Int32)) gX9_isNoImage_X9_isOutside rfl (by decide +kernel) ⟨Nat.le_of_ble_eq_true rfl, Nat.le_of_ble_eq_true rfl⟩ rfl rfl (Nat.le_of_ble_eq_true rfl) (Nat.zero_le _) (Nat.zero_le _) dX9_isNoImage_3 ?_
  exact s_zret X (pc := 6) (v := rX9_isOutside p0 (0 : Int32) (1 : Int32)) (bX9_isOutside _ _ _) dX9_isNoImage_6 rfl rfl
theorem bX9_isNoImage (p0 : Int32) : rX9_isNoImage p0 = 0 ∨ rX9_isNoImage p0 = 1 := by
  unfold rX9_isNoImage
  repeat' split
  all_goals first | exact Or.inl rfl | exact Or.inr rfl | exact bX9_isOutside _ _ _

theorem isNC {x : Int32} (h : rX9_isNoCell x = 0) : 0 ≤ x ∧ x ≤ 9 := isO.mp h
theorem isND {x : Int32} (h : rX9_isNoDepth x = 0) : 0 ≤ x ∧ x ≤ 10 := isO.mp h
theorem isNI {x : Int32} (h : rX9_isNoImage x = 0) : 0 ≤ x ∧ x ≤ 1 := isO.mp h
theorem hasHut_i {n x : Int32} (h : ¬ rX0_hasHut n x = 0) : 0 ≤ x ∧ x < n := by
  unfold rX0_hasHut at h
  exact ⟨by grind, by grind⟩
theorem hasCase_i {n x : Int32} (h : ¬ rX0_hasCase n x = 0) : 0 ≤ x ∧ x < n := by
  unfold rX0_hasCase at h
  exact ⟨by grind, by grind⟩

theorem iX9_depthBehind_X2 : ∀ z ∈ wsX20, z ∈ wsX9_depthBehind := fun z h => List.mem_cons_of_mem _ (List.mem_append_left _ (List.mem_append_right _ h))
theorem iX9_depthBehind_X9 : ∀ z ∈ wsX90, z ∈ wsX9_depthBehind := fun z h => List.mem_cons_of_mem _ (List.mem_append_left _ (List.mem_append_left _ (List.mem_append_right _ h)))
theorem kX9_depthBehind_68 : Cond.fieldLink RX9 68 "BathingCourt" (TX9 8).2.1 (TX9 8).2.2.1 ∈ wsX9_depthBehind := List.mem_of_getElem? (i := 1) rfl
theorem kX9_depthBehind_19 : Cond.fieldLink RX9 19 "BathingCourt" (TX9 1).2.1 (TX9 1).2.2.1 ∈ wsX9_depthBehind := List.mem_of_getElem? (i := 2) rfl
theorem kX9_depthBehind_117 : Cond.fieldLink RX9 117 "BathingCourt$Day" (TX2 5).2.1 (TX2 5).2.2.1 ∈ wsX9_depthBehind := List.mem_of_getElem? (i := 3) rfl
def rX9_depthBehind (dy5 : Int32) (sh0 : Nat → Int32) (sh6 p0 p1 : Int32) : Int32 := rX0_depthAt sh0 sh6 p0 (dy5 + p1)
set_option maxRecDepth 100000 in
set_option maxHeartbeats 4000000 in
theorem c_X9_depthBehind (l : Launch) (G : GT) (AD : Nat → Nat → Nat) (rd0 : Nat → Int32) (rd1 rd2 rd3 rd4 : Int32) (dy0 dy1 dy2 dy3 dy4 : Nat → Int32) (dy5 : Int32) (pa0 : Nat → Int32) (pa1 pa2 : Int32) (im0 im1 im2 pl0 pl1 pl2 pl3 pl4 pl5 : Nat → Int32) (pl6 pl7 pl8 : Int32) (er0 er1 : Nat → Int32) (er2 : Int32) (bk0 bk1 : Nat → Int32) (bk2 dr0 : Int32) (sh0 sh1 sh2 sh3 sh4 sh5 : Nat → Int32) (sh6 sh7 sh8 : Int32) (sp0 sp1 sp2 sp3 sp4 sp5 : Nat → Int32) (sp6 sp7 sp8 p0 p1 : Int32) (t12 : sh6 ≤ 12) : Ci l G yX9_depthBehind wsX9_depthBehind (rmL 1) [.ref (AD 10 0), .int p0, .int p1] (wC G AD (AD 8 0) (AD 9 0) rd0 rd1 rd2 rd3 rd4 dy0 dy1 dy2 dy3 dy4 dy5 pa0 pa1 pa2 im0 im1 im2 pl0 pl1 pl2 pl3 pl4 pl5 pl6 pl7 pl8 er0 er1 er2 bk0 bk1 bk2 dr0 sh0 sh1 sh2 sh3 sh4 sh5 sh6 sh7 sh8 sp0 sp1 sp2 sp3 sp4 sp5 sp6 sp7 sp8) (rX9_depthBehind dy5 sh0 sh6 p0 p1) (wC G AD (AD 8 0) (AD 9 0) rd0 rd1 rd2 rd3 rd4 dy0 dy1 dy2 dy3 dy4 dy5 pa0 pa1 pa2 im0 im1 im2 pl0 pl1 pl2 pl3 pl4 pl5 pl6 pl7 pl8 er0 er1 er2 bk0 bk1 bk2 dr0 sh0 sh1 sh2 sh3 sh4 sh5 sh6 sh7 sh8 sp0 sp1 sp2 sp3 sp4 sp5 sp6 sp7 sp8) := by
  refine ci_start .int (by decide) rfl rfl (Nat.le_of_ble_eq_true rfl) ?_
  intro p e s m args below meth c A X
  refine s_perm (lv2 := [(0, .ref (AD 10 0)), (1, .int p0), (2, .int p1)]) [0, 1, 2] rfl ?_
  refine s_aload_n X (pc := 0) (x := (AD 10 0)) 0 dX9_depthBehind_0 rfl ?_
  refine s_get X (pc := 1) (v := .ref (AD 8 0)) iX9_depthBehind_X9 0 rfl rfl 8 (by decide) kX9_depthBehind_68 rfl rfl dX9_depthBehind_1 ?_
  refine s_iload_n X (pc := 4) (x := p0) 1 dX9_depthBehind_4 rfl ?_
  refine s_aload_n X (pc := 5) (x := (AD 10 0)) 0 dX9_depthBehind_5 rfl ?_
  refine s_get X (pc := 6) (v := .ref (AD 1 0)) iX9_depthBehind_X9 0 rfl rfl 1 (by decide) kX9_depthBehind_19 rfl rfl dX9_depthBehind_6 ?_
  refine s_get X (pc := 9) (v := .int dy5) iX9_depthBehind_X2 3 rfl rfl 5 (by decide) kX9_depthBehind_117 rfl rfl dX9_depthBehind_9 ?_
  refine s_iload_n X (pc := 12) (x := p1) 2 dX9_depthBehind_12 rfl ?_
  refine s_iadd X (pc := 13) dX9_depthBehind_13 ?_
  refine s_callVi0 X (pc := 14) (r := rX0_depthAt sh0 sh6 p0 (dy5 + p1)) (w := wC G AD (AD 8 0) (AD 9 0) rd0 rd1 rd2 rd3 rd4 dy0 dy1 dy2 dy3 dy4 dy5 pa0 pa1 pa2 im0 im1 im2 pl0 pl1 pl2 pl3 pl4 pl5 pl6 pl7 pl8 er0 er1 er2 bk0 bk1 bk2 dr0 sh0 sh1 sh2 sh3 sh4 sh5 sh6 sh7 sh8 sp0 sp1 sp2 sp3 sp4 sp5 sp6 sp7 sp8) (n := 2) (st := []) (As := [.int p0, .int (dy5 + p1)]) (w2 := wC G AD (AD 8 0) (AD 9 0) rd0 rd1 rd2 rd3 rd4 dy0 dy1 dy2 dy3 dy4 dy5 pa0 pa1 pa2 im0 im1 im2 pl0 pl1 pl2 pl3 pl4 pl5 pl6 pl7 pl8 er0 er1 er2 bk0 bk1 bk2 dr0 sh0 sh1 sh2 sh3 sh4 sh5 sh6 sh7 sh8 sp0 sp1 sp2 sp3 sp4 sp5 sp6 sp7 sp8) 0 (c_L8_X0_depthAt l G AD (AD 8 0) (AD 9 0) rd0 rd1 rd2 rd3 rd4 dy0 dy1 dy2 dy3 dy4 dy5 pa0 pa1 pa2 im0 im1 im2 pl0 pl1 pl2 pl3 pl4 pl5 pl6 pl7 pl8 er0 er1 er2 bk0 bk1 bk2 dr0 sh0 sh1 sh2 sh3 sh4 sh5 sh6 sh7 sh8 sp0 sp1 sp2 sp3 sp4 sp5 sp6 sp7 sp8 p0 (dy5 + p1) (by first | with_reducible assumption | grind)) gX9_depthBehind_X0_depthAt rfl (by decide +kernel) ⟨Nat.le_of_ble_eq_true rfl, Nat.le_of_ble_eq_true rfl⟩ 29 rfl rfl rfl rfl (Nat.le_of_ble_eq_true rfl) (Nat.zero_le _) (Nat.zero_le _) dX9_depthBehind_14 ?_
  exact s_iret X (pc := 17) (v := rX0_depthAt sh0 sh6 p0 (dy5 + p1)) dX9_depthBehind_17 rfl rfl

theorem iX9_fault_X8 : ∀ z ∈ wsX80, z ∈ wsX9_fault := fun z h => List.mem_cons_of_mem _ (List.mem_append_right _ h)
theorem iX9_fault_X9 : ∀ z ∈ wsX90, z ∈ wsX9_fault := fun z h => List.mem_cons_of_mem _ (List.mem_append_left _ (List.mem_append_right _ h))
theorem kX9_fault_10 : Cond.fieldLink RX9 10 "BathingCourt" (TX9 0).2.1 (TX9 0).2.2.1 ∈ wsX9_fault := List.mem_of_getElem? (i := 1) rfl
theorem kX9_fault_108 : Cond.fieldLink RX9 108 "BathingCourt$Reader" (TX8 4).2.1 (TX8 4).2.2.1 ∈ wsX9_fault := List.mem_of_getElem? (i := 2) rfl
def rX9_fault (rd4 : Int32) : Int32 := rd4
set_option maxRecDepth 100000 in
set_option maxHeartbeats 4000000 in
theorem c_X9_fault (l : Launch) (G : GT) (AD : Nat → Nat → Nat) (rd0 : Nat → Int32) (rd1 rd2 rd3 rd4 : Int32) (dy0 dy1 dy2 dy3 dy4 : Nat → Int32) (dy5 : Int32) (pa0 : Nat → Int32) (pa1 pa2 : Int32) (im0 im1 im2 pl0 pl1 pl2 pl3 pl4 pl5 : Nat → Int32) (pl6 pl7 pl8 : Int32) (er0 er1 : Nat → Int32) (er2 : Int32) (bk0 bk1 : Nat → Int32) (bk2 dr0 : Int32) (sh0 sh1 sh2 sh3 sh4 sh5 : Nat → Int32) (sh6 sh7 sh8 : Int32) (sp0 sp1 sp2 sp3 sp4 sp5 : Nat → Int32) (sp6 sp7 sp8 : Int32) : Ci l G yX9_fault wsX9_fault (rmL 0) [.ref (AD 10 0)] (wC G AD (AD 8 0) (AD 9 0) rd0 rd1 rd2 rd3 rd4 dy0 dy1 dy2 dy3 dy4 dy5 pa0 pa1 pa2 im0 im1 im2 pl0 pl1 pl2 pl3 pl4 pl5 pl6 pl7 pl8 er0 er1 er2 bk0 bk1 bk2 dr0 sh0 sh1 sh2 sh3 sh4 sh5 sh6 sh7 sh8 sp0 sp1 sp2 sp3 sp4 sp5 sp6 sp7 sp8) (rX9_fault rd4) (wC G AD (AD 8 0) (AD 9 0) rd0 rd1 rd2 rd3 rd4 dy0 dy1 dy2 dy3 dy4 dy5 pa0 pa1 pa2 im0 im1 im2 pl0 pl1 pl2 pl3 pl4 pl5 pl6 pl7 pl8 er0 er1 er2 bk0 bk1 bk2 dr0 sh0 sh1 sh2 sh3 sh4 sh5 sh6 sh7 sh8 sp0 sp1 sp2 sp3 sp4 sp5 sp6 sp7 sp8) := by
  refine ci_start .int (by decide) rfl rfl (Nat.le_of_ble_eq_true rfl) ?_
  intro p e s m args below meth c A X
  refine s_perm (lv2 := [(0, .ref (AD 10 0))]) [0] rfl ?_
  refine s_aload_n X (pc := 0) (x := (AD 10 0)) 0 dX9_fault_0 rfl ?_
  refine s_get X (pc := 1) (v := .ref (AD 0 0)) iX9_fault_X9 0 rfl rfl 0 (by decide) kX9_fault_10 rfl rfl dX9_fault_1 ?_
  refine s_get X (pc := 4) (v := .int rd4) iX9_fault_X8 1 rfl rfl 4 (by decide) kX9_fault_108 rfl rfl dX9_fault_4 ?_
  exact s_iret X (pc := 7) (v := rd4) dX9_fault_7 rfl rfl

theorem iX9_feed_X8 : ∀ z ∈ wsX80, z ∈ wsX9_feed := fun z h => List.mem_cons_of_mem _ (List.mem_append_right _ h)
theorem iX9_feed_X9 : ∀ z ∈ wsX90, z ∈ wsX9_feed := fun z h => List.mem_cons_of_mem _ (List.mem_append_left _ (List.mem_append_right _ h))
theorem kX9_feed_10 : Cond.fieldLink RX9 10 "BathingCourt" (TX9 0).2.1 (TX9 0).2.2.1 ∈ wsX9_feed := List.mem_of_getElem? (i := 2) rfl
theorem kX9_feed_80 : Cond.fieldLink RX9 80 "BathingCourt$Reader" (TX8 2).2.1 (TX8 2).2.2.1 ∈ wsX9_feed := List.mem_of_getElem? (i := 3) rfl
theorem kX9_feed_c84 : Jvm.Cond.constant RX9 84 (-1000000004) ∈ wsX9_feed := List.mem_of_getElem? (i := 4) rfl
theorem kX9_feed_c79 : Jvm.Cond.constant RX9 79 (-1000000002) ∈ wsX9_feed := List.mem_of_getElem? (i := 1) rfl
def rX9_feed (rd2 p0 : Int32) : Int32 := if (rX9_isOutside p0 (0 : Int32) (255 : Int32)) = 0 then (if rd2 < (240 : Int32) then (rX8_add rd2) else (-1000000004 : Int32)) else (-1000000002 : Int32)
def sX9_feed_o0_0 (rd0 : Nat → Int32) (rd2 p0 : Int32) : Nat → Int32 := if (rX9_isOutside p0 (0 : Int32) (255 : Int32)) = 0 then (if rd2 < (240 : Int32) then (sX8_add_0 rd0 rd2 p0) else rd0) else rd0
def sX9_feed_o0_2 (rd2 p0 : Int32) : Int32 := if (rX9_isOutside p0 (0 : Int32) (255 : Int32)) = 0 then (if rd2 < (240 : Int32) then (sX8_add_2 rd2) else rd2) else rd2
set_option maxRecDepth 100000 in
set_option maxHeartbeats 4000000 in
theorem c_X9_feed (l : Launch) (G : GT) (AD : Nat → Nat → Nat) (rd0 : Nat → Int32) (rd1 rd2 rd3 rd4 : Int32) (dy0 dy1 dy2 dy3 dy4 : Nat → Int32) (dy5 : Int32) (pa0 : Nat → Int32) (pa1 pa2 : Int32) (im0 im1 im2 pl0 pl1 pl2 pl3 pl4 pl5 : Nat → Int32) (pl6 pl7 pl8 : Int32) (er0 er1 : Nat → Int32) (er2 : Int32) (bk0 bk1 : Nat → Int32) (bk2 dr0 : Int32) (sh0 sh1 sh2 sh3 sh4 sh5 : Nat → Int32) (sh6 sh7 sh8 : Int32) (sp0 sp1 sp2 sp3 sp4 sp5 : Nat → Int32) (sp6 sp7 sp8 p0 : Int32) (h0 : 0 ≤ rd2) : Ci l G yX9_feed wsX9_feed (rmL 1) [.ref (AD 10 0), .int p0] (wC G AD (AD 8 0) (AD 9 0) rd0 rd1 rd2 rd3 rd4 dy0 dy1 dy2 dy3 dy4 dy5 pa0 pa1 pa2 im0 im1 im2 pl0 pl1 pl2 pl3 pl4 pl5 pl6 pl7 pl8 er0 er1 er2 bk0 bk1 bk2 dr0 sh0 sh1 sh2 sh3 sh4 sh5 sh6 sh7 sh8 sp0 sp1 sp2 sp3 sp4 sp5 sp6 sp7 sp8) (rX9_feed rd2 p0) (wC G AD (AD 8 0) (AD 9 0) (sX9_feed_o0_0 rd0 rd2 p0) rd1 (sX9_feed_o0_2 rd2 p0) rd3 rd4 dy0 dy1 dy2 dy3 dy4 dy5 pa0 pa1 pa2 im0 im1 im2 pl0 pl1 pl2 pl3 pl4 pl5 pl6 pl7 pl8 er0 er1 er2 bk0 bk1 bk2 dr0 sh0 sh1 sh2 sh3 sh4 sh5 sh6 sh7 sh8 sp0 sp1 sp2 sp3 sp4 sp5 sp6 sp7 sp8) := by
  refine ci_start .int (by decide) rfl rfl (Nat.le_of_ble_eq_true rfl) ?_
  intro p e s m args below meth c A X
  refine s_perm (lv2 := [(0, .ref (AD 10 0)), (1, .int p0)]) [0, 1] rfl ?_
  refine s_iload_n X (pc := 0) (x := p0) 1 dX9_feed_0 rfl ?_
  refine s_iconst X (pc := 1) (v := 0) dX9_feed_1 (by decide) ?_
  refine s_sipush X (pc := 2) (v := 255) dX9_feed_2 (by decide) ?_
  refine s_callSiN X (pc := 5) (r := rX9_isOutside p0 (0 : Int32) (255 : Int32)) (n := 3) (st := []) (As := [.int p0, .int (0 : Int32), .int (255 : Int32)]) 0 (c_X9_isOutside l G p0 (0 : Int32) (255 : Int32)) gX9_feed_X9_isOutside rfl (by decide +kernel) ⟨Nat.le_of_ble_eq_true rfl, Nat.le_of_ble_eq_true rfl⟩ rfl rfl (Nat.le_of_ble_eq_true rfl) (Nat.zero_le _) (Nat.zero_le _) dX9_feed_5 ?_
  refine s_if_eq X (pc := 8) (tgt := 14) dX9_feed_8 (by decide) (fun c8 => ?_) (fun c8 => ?_)
  ·
    refine s_aload_n X (pc := 14) (x := (AD 10 0)) 0 dX9_feed_14 rfl ?_
    refine s_get X (pc := 15) (v := .ref (AD 0 0)) iX9_feed_X9 0 rfl rfl 0 (by decide) kX9_feed_10 rfl rfl dX9_feed_15 ?_
    refine s_get X (pc := 18) (v := .int rd2) iX9_feed_X8 1 rfl rfl 2 (by decide) kX9_feed_80 rfl rfl dX9_feed_18 ?_
    refine s_sipush X (pc := 21) (v := 240) dX9_feed_21 (by decide) ?_
    refine s_icmp_lt X (pc := 24) (tgt := 30) dX9_feed_24 (by decide) (fun c24 => ?_) (fun c24 => ?_)
    ·
      refine s_aload_n X (pc := 30) (x := (AD 10 0)) 0 dX9_feed_30 rfl ?_
      refine s_get X (pc := 31) (v := .ref (AD 0 0)) iX9_feed_X9 0 rfl rfl 0 (by decide) kX9_feed_10 rfl rfl dX9_feed_31 ?_
      refine s_iload_n X (pc := 34) (x := p0) 1 dX9_feed_34 rfl ?_
      refine s_callVi0 X (pc := 35) (r := rX8_add rd2) (w := wC G AD (AD 8 0) (AD 9 0) rd0 rd1 rd2 rd3 rd4 dy0 dy1 dy2 dy3 dy4 dy5 pa0 pa1 pa2 im0 im1 im2 pl0 pl1 pl2 pl3 pl4 pl5 pl6 pl7 pl8 er0 er1 er2 bk0 bk1 bk2 dr0 sh0 sh1 sh2 sh3 sh4 sh5 sh6 sh7 sh8 sp0 sp1 sp2 sp3 sp4 sp5 sp6 sp7 sp8) (n := 1) (st := []) (As := [.int p0]) (w2 := wC G AD (AD 8 0) (AD 9 0) (sX8_add_0 rd0 rd2 p0) rd1 (sX8_add_2 rd2) rd3 rd4 dy0 dy1 dy2 dy3 dy4 dy5 pa0 pa1 pa2 im0 im1 im2 pl0 pl1 pl2 pl3 pl4 pl5 pl6 pl7 pl8 er0 er1 er2 bk0 bk1 bk2 dr0 sh0 sh1 sh2 sh3 sh4 sh5 sh6 sh7 sh8 sp0 sp1 sp2 sp3 sp4 sp5 sp6 sp7 sp8) 0 (c_L0_X8_add l G AD (AD 8 0) (AD 9 0) rd0 rd1 rd2 rd3 rd4 dy0 dy1 dy2 dy3 dy4 dy5 pa0 pa1 pa2 im0 im1 im2 pl0 pl1 pl2 pl3 pl4 pl5 pl6 pl7 pl8 er0 er1 er2 bk0 bk1 bk2 dr0 sh0 sh1 sh2 sh3 sh4 sh5 sh6 sh7 sh8 sp0 sp1 sp2 sp3 sp4 sp5 sp6 sp7 sp8 p0 (by first | with_reducible assumption | grind)) gX9_feed_X8_add rfl (by decide +kernel) ⟨Nat.le_of_ble_eq_true rfl, Nat.le_of_ble_eq_true rfl⟩ 1 rfl rfl rfl rfl (Nat.le_of_ble_eq_true rfl) (Nat.zero_le _) (Nat.zero_le _) dX9_feed_35 ?_
      exact s_iret X (pc := 38) (v := rX8_add rd2) dX9_feed_38 (Eq.symm (show rX9_feed rd2 p0 = rX8_add rd2 from (by unfold rX9_feed; exact ((if_pos c8).trans (if_pos c24))))) (by rw [show sX9_feed_o0_0 rd0 rd2 p0 = sX8_add_0 rd0 rd2 p0 from (by unfold sX9_feed_o0_0; exact ((if_pos c8).trans (if_pos c24))), show sX9_feed_o0_2 rd2 p0 = sX8_add_2 rd2 from (by unfold sX9_feed_o0_2; exact ((if_pos c8).trans (if_pos c24)))])
    ·
      refine s_ldc X (pc := 27) (v := -1000000004) kX9_feed_c84 dX9_feed_27 ?_
      exact s_iret X (pc := 29) (v := (-1000000004 : Int32)) dX9_feed_29 (Eq.symm (show rX9_feed rd2 p0 = (-1000000004 : Int32) from (by unfold rX9_feed; exact ((if_pos c8).trans (if_neg c24))))) (by rw [show sX9_feed_o0_0 rd0 rd2 p0 = rd0 from (by unfold sX9_feed_o0_0; exact ((if_pos c8).trans (if_neg c24))), show sX9_feed_o0_2 rd2 p0 = rd2 from (by unfold sX9_feed_o0_2; exact ((if_pos c8).trans (if_neg c24)))])
  ·
    refine s_ldc X (pc := 11) (v := -1000000002) kX9_feed_c79 dX9_feed_11 ?_
    exact s_iret X (pc := 13) (v := (-1000000002 : Int32)) dX9_feed_13 (Eq.symm (show rX9_feed rd2 p0 = (-1000000002 : Int32) from (by unfold rX9_feed; exact (if_neg c8)))) (by rw [show sX9_feed_o0_0 rd0 rd2 p0 = rd0 from (by unfold sX9_feed_o0_0; exact (if_neg c8)), show sX9_feed_o0_2 rd2 p0 = rd2 from (by unfold sX9_feed_o0_2; exact (if_neg c8))])

theorem iX9_owed_X0 : ∀ z ∈ wsX00, z ∈ wsX9_owed := fun z h => List.mem_cons_of_mem _ (List.mem_append_left _ (List.mem_append_right _ h))
theorem iX9_owed_X2 : ∀ z ∈ wsX20, z ∈ wsX9_owed := fun z h => List.mem_cons_of_mem _ (List.mem_append_right _ h)
theorem iX9_owed_X9 : ∀ z ∈ wsX90, z ∈ wsX9_owed := fun z h => List.mem_cons_of_mem _ (List.mem_append_left _ (List.mem_append_left _ (List.mem_append_right _ h)))
theorem kX9_owed_68 : Cond.fieldLink RX9 68 "BathingCourt" (TX9 8).2.1 (TX9 8).2.2.1 ∈ wsX9_owed := List.mem_of_getElem? (i := 1) rfl
theorem kX9_owed_105 : Cond.fieldLink RX9 105 "BathingCourt$Beach" (TX0 8).2.1 (TX0 8).2.2.1 ∈ wsX9_owed := List.mem_of_getElem? (i := 2) rfl
theorem kX9_owed_19 : Cond.fieldLink RX9 19 "BathingCourt" (TX9 1).2.1 (TX9 1).2.2.1 ∈ wsX9_owed := List.mem_of_getElem? (i := 3) rfl
theorem kX9_owed_181 : Cond.fieldLink RX9 181 "BathingCourt$Day" (TX2 3).2.1 (TX2 3).2.2.1 ∈ wsX9_owed := List.mem_of_getElem? (i := 4) rfl
theorem kX9_owed_178 : Cond.fieldLink RX9 178 "BathingCourt$Beach" (TX0 5).2.1 (TX0 5).2.2.1 ∈ wsX9_owed := List.mem_of_getElem? (i := 5) rfl
def aX9_owed_4 (dy3 sh5 : Nat → Int32) : Nat → Int32
  | 0 => (0 : Int32)
  | k4 + 1 => if (dy3 (nI k4).toNatClampNeg) = (2 : Int32) then ((aX9_owed_4 dy3 sh5 k4) + (sh5 (nI k4).toNatClampNeg)) else (aX9_owed_4 dy3 sh5 k4)
def rX9_owed (dy3 sh5 : Nat → Int32) (sh8 : Int32) : Int32 := (aX9_owed_4 dy3 sh5 sh8.toNatClampNeg)
set_option maxRecDepth 100000 in
set_option maxHeartbeats 4000000 in
theorem c_X9_owed (l : Launch) (G : GT) (AD : Nat → Nat → Nat) (rd0 : Nat → Int32) (rd1 rd2 rd3 rd4 : Int32) (dy0 dy1 dy2 dy3 dy4 : Nat → Int32) (dy5 : Int32) (pa0 : Nat → Int32) (pa1 pa2 : Int32) (im0 im1 im2 pl0 pl1 pl2 pl3 pl4 pl5 : Nat → Int32) (pl6 pl7 pl8 : Int32) (er0 er1 : Nat → Int32) (er2 : Int32) (bk0 bk1 : Nat → Int32) (bk2 dr0 : Int32) (sh0 sh1 sh2 sh3 sh4 sh5 : Nat → Int32) (sh6 sh7 sh8 : Int32) (sp0 sp1 sp2 sp3 sp4 sp5 : Nat → Int32) (sp6 sp7 sp8 : Int32) (ca : 0 ≤ sh8) (cb : sh8 ≤ 5) : Ci l G yX9_owed wsX9_owed (rmL 0) [.ref (AD 10 0)] (wC G AD (AD 8 0) (AD 9 0) rd0 rd1 rd2 rd3 rd4 dy0 dy1 dy2 dy3 dy4 dy5 pa0 pa1 pa2 im0 im1 im2 pl0 pl1 pl2 pl3 pl4 pl5 pl6 pl7 pl8 er0 er1 er2 bk0 bk1 bk2 dr0 sh0 sh1 sh2 sh3 sh4 sh5 sh6 sh7 sh8 sp0 sp1 sp2 sp3 sp4 sp5 sp6 sp7 sp8) (rX9_owed dy3 sh5 sh8) (wC G AD (AD 8 0) (AD 9 0) rd0 rd1 rd2 rd3 rd4 dy0 dy1 dy2 dy3 dy4 dy5 pa0 pa1 pa2 im0 im1 im2 pl0 pl1 pl2 pl3 pl4 pl5 pl6 pl7 pl8 er0 er1 er2 bk0 bk1 bk2 dr0 sh0 sh1 sh2 sh3 sh4 sh5 sh6 sh7 sh8 sp0 sp1 sp2 sp3 sp4 sp5 sp6 sp7 sp8) := by
  refine ci_start .int (by decide) rfl rfl (Nat.le_of_ble_eq_true rfl) ?_
  intro p e s m args below meth c A X
  have e8 := clampInt ca
  have hN8 := clampLe (n := 5) (b := 5) rfl ca cb
  refine s_perm (lv2 := [(0, .ref (AD 10 0))]) [0] rfl ?_
  refine s_iconst X (pc := 0) (v := 0) dX9_owed_0 (by decide) ?_
  refine s_istore_n X (pc := 1) (i := 1) (lv2 := [(1, .int (0 : Int32)), (0, .ref (AD 10 0))]) dX9_owed_1 rfl (by decide) rfl ?_
  refine s_iconst X (pc := 2) (v := 0) dX9_owed_2 (by decide) ?_
  refine s_istore_n X (pc := 3) (i := 2) (lv2 := [(2, .int (0 : Int32)), (1, .int (0 : Int32)), (0, .ref (AD 10 0))]) dX9_owed_3 rfl (by decide) rfl ?_
  refine s_perm (lv2 := [(0, .ref (AD 10 0)), (1, .int (0 : Int32)), (2, .int (0 : Int32))]) [2, 1, 0] rfl ?_
  have L4 : ∀ (n4 k4 : Nat), k4 + n4 = sh8.toNatClampNeg → Sm p l e (rmL 0) s m args below meth c G A 3 0 0 (Qci below G A args s (rX9_owed dy3 sh5 sh8) (wC G AD (AD 8 0) (AD 9 0) rd0 rd1 rd2 rd3 rd4 dy0 dy1 dy2 dy3 dy4 dy5 pa0 pa1 pa2 im0 im1 im2 pl0 pl1 pl2 pl3 pl4 pl5 pl6 pl7 pl8 er0 er1 er2 bk0 bk1 bk2 dr0 sh0 sh1 sh2 sh3 sh4 sh5 sh6 sh7 sh8 sp0 sp1 sp2 sp3 sp4 sp5 sp6 sp7 sp8)) 4 [(0, .ref (AD 10 0)), (1, .int (aX9_owed_4 dy3 sh5 k4)), (2, .int (nI k4))] [] (wC G AD (AD 8 0) (AD 9 0) rd0 rd1 rd2 rd3 rd4 dy0 dy1 dy2 dy3 dy4 dy5 pa0 pa1 pa2 im0 im1 im2 pl0 pl1 pl2 pl3 pl4 pl5 pl6 pl7 pl8 er0 er1 er2 bk0 bk1 bk2 dr0 sh0 sh1 sh2 sh3 sh4 sh5 sh6 sh7 sh8 sp0 sp1 sp2 sp3 sp4 sp5 sp6 sp7 sp8) := by
    intro n4
    induction n4 with
    | zero =>
      intro k4 hk4
      have hK4 : k4 = sh8.toNatClampNeg := by omega
      rw [hK4]
      have tk4 : (nI sh8.toNatClampNeg).toInt = ((sh8.toNatClampNeg : Nat) : Int) := nI_toInt (by omega)
      have eN4 : (sh8).toInt = ((sh8.toNatClampNeg : Nat) : Int) := e8
      refine s_iload_n X (pc := 4) (x := nI sh8.toNatClampNeg) 2 dX9_owed_4 rfl ?_
      refine s_aload_n X (pc := 5) (x := (AD 10 0)) 0 dX9_owed_5 rfl ?_
      refine s_get X (pc := 6) (v := .ref (AD 8 0)) iX9_owed_X9 0 rfl rfl 8 (by decide) kX9_owed_68 rfl rfl dX9_owed_6 ?_
      refine s_get X (pc := 9) (v := .int sh8) iX9_owed_X0 29 rfl rfl 8 (by decide) kX9_owed_105 rfl rfl dX9_owed_9 ?_
      refine s_icmp_ge X (pc := 12) (tgt := 46) dX9_owed_12 (by decide) (fun c12 => ?_) (fun c12 => ?_)
      ·
        refine s_iload_n X (pc := 46) (x := (aX9_owed_4 dy3 sh5 sh8.toNatClampNeg)) 1 dX9_owed_46 rfl ?_
        exact s_iret X (pc := 47) (v := (aX9_owed_4 dy3 sh5 sh8.toNatClampNeg)) dX9_owed_47 rfl rfl
      ·
        exact absurd ((t_le eN4 tk4).mpr (by omega)) c12
    | succ n4 ih4 =>
      intro k4 hk4
      have hlt4 : k4 < sh8.toNatClampNeg := by omega
      have tk4 : (nI k4).toInt = ((k4 : Nat) : Int) := nI_toInt (by omega)
      have eN4 : (sh8).toInt = ((sh8.toNatClampNeg : Nat) : Int) := e8
      refine s_iload_n X (pc := 4) (x := nI k4) 2 dX9_owed_4 rfl ?_
      refine s_aload_n X (pc := 5) (x := (AD 10 0)) 0 dX9_owed_5 rfl ?_
      refine s_get X (pc := 6) (v := .ref (AD 8 0)) iX9_owed_X9 0 rfl rfl 8 (by decide) kX9_owed_68 rfl rfl dX9_owed_6 ?_
      refine s_get X (pc := 9) (v := .int sh8) iX9_owed_X0 29 rfl rfl 8 (by decide) kX9_owed_105 rfl rfl dX9_owed_9 ?_
      refine s_icmp_ge X (pc := 12) (tgt := 46) dX9_owed_12 (by decide) (fun c12 => ?_) (fun c12 => ?_)
      ·
        exact absurd ((t_le eN4 tk4).mp c12) (by omega)
      ·
        refine s_aload_n X (pc := 15) (x := (AD 10 0)) 0 dX9_owed_15 rfl ?_
        refine s_get X (pc := 16) (v := .ref (AD 1 0)) iX9_owed_X9 0 rfl rfl 1 (by decide) kX9_owed_19 rfl rfl dX9_owed_16 ?_
        refine s_get X (pc := 19) (v := .ref ((AD 1) 4)) iX9_owed_X2 3 rfl rfl 3 (by decide) kX9_owed_181 rfl rfl dX9_owed_19 ?_
        refine s_iload_n X (pc := 22) (x := nI k4) 2 dX9_owed_22 rfl ?_
        refine s_iald X (pc := 23) (n := 5) (f := dy3) 7 rfl (vp_in_nI (by omega) (by decide)) dX9_owed_23 ?_
        refine s_iconst X (pc := 24) (v := 2) dX9_owed_24 (by decide) ?_
        refine s_icmp_ne X (pc := 25) (tgt := 40) dX9_owed_25 (by decide) (fun c25 => ?_) (fun c25 => ?_)
        ·
          refine s_iinc X (pc := 40) (v := nI (k4 + 1)) (lv2 := [(2, .int (nI (k4 + 1))), (0, .ref (AD 10 0)), (1, .int (aX9_owed_4 dy3 sh5 k4))]) 2 dX9_owed_40 rfl (nI_1 _) (by decide) rfl ?_
          refine s_goto X (pc := 43) (tgt := 4) dX9_owed_43 (by decide) ?_
          refine s_perm (lv2 := [(0, .ref (AD 10 0)), (1, .int (aX9_owed_4 dy3 sh5 k4)), (2, .int (nI (k4 + 1)))]) [1, 2, 0] rfl ?_
          have hb4 : (aX9_owed_4 dy3 sh5 (k4 + 1)) = (aX9_owed_4 dy3 sh5 k4) := by rw [aX9_owed_4]; exact (if_neg c25)
          refine s_cast (lv2 := [(0, .ref (AD 10 0)), (1, .int (aX9_owed_4 dy3 sh5 (k4 + 1))), (2, .int (nI (k4 + 1)))]) (w2 := wC G AD (AD 8 0) (AD 9 0) rd0 rd1 rd2 rd3 rd4 dy0 dy1 dy2 dy3 dy4 dy5 pa0 pa1 pa2 im0 im1 im2 pl0 pl1 pl2 pl3 pl4 pl5 pl6 pl7 pl8 er0 er1 er2 bk0 bk1 bk2 dr0 sh0 sh1 sh2 sh3 sh4 sh5 sh6 sh7 sh8 sp0 sp1 sp2 sp3 sp4 sp5 sp6 sp7 sp8) (by first | (rw [hb4]; done) | rfl) (by first | (rw [hb4]; done) | rfl) ?_
          exact ih4 (k4 + 1) (by omega)
        ·
          refine s_iload_n X (pc := 28) (x := (aX9_owed_4 dy3 sh5 k4)) 1 dX9_owed_28 rfl ?_
          refine s_aload_n X (pc := 29) (x := (AD 10 0)) 0 dX9_owed_29 rfl ?_
          refine s_get X (pc := 30) (v := .ref (AD 8 0)) iX9_owed_X9 0 rfl rfl 8 (by decide) kX9_owed_68 rfl rfl dX9_owed_30 ?_
          refine s_get X (pc := 33) (v := .ref ((AD 8) 6)) iX9_owed_X0 29 rfl rfl 5 (by decide) kX9_owed_178 rfl rfl dX9_owed_33 ?_
          refine s_iload_n X (pc := 36) (x := nI k4) 2 dX9_owed_36 rfl ?_
          refine s_iald X (pc := 37) (n := 5) (f := sh5) 35 rfl (vp_in_nI (by omega) (by decide)) dX9_owed_37 ?_
          refine s_iadd X (pc := 38) dX9_owed_38 ?_
          refine s_istore_n X (pc := 39) (i := 1) (lv2 := [(1, .int ((aX9_owed_4 dy3 sh5 k4) + (sh5 (nI k4).toNatClampNeg))), (0, .ref (AD 10 0)), (2, .int (nI k4))]) dX9_owed_39 rfl (by decide) rfl ?_
          refine s_iinc X (pc := 40) (v := nI (k4 + 1)) (lv2 := [(2, .int (nI (k4 + 1))), (1, .int ((aX9_owed_4 dy3 sh5 k4) + (sh5 (nI k4).toNatClampNeg))), (0, .ref (AD 10 0))]) 2 dX9_owed_40 rfl (nI_1 _) (by decide) rfl ?_
          refine s_goto X (pc := 43) (tgt := 4) dX9_owed_43 (by decide) ?_
          refine s_perm (lv2 := [(0, .ref (AD 10 0)), (1, .int ((aX9_owed_4 dy3 sh5 k4) + (sh5 (nI k4).toNatClampNeg))), (2, .int (nI (k4 + 1)))]) [2, 1, 0] rfl ?_
          have hb4 : (aX9_owed_4 dy3 sh5 (k4 + 1)) = (aX9_owed_4 dy3 sh5 k4) + (sh5 (nI k4).toNatClampNeg) := by rw [aX9_owed_4]; exact (if_pos c25)
          refine s_cast (lv2 := [(0, .ref (AD 10 0)), (1, .int (aX9_owed_4 dy3 sh5 (k4 + 1))), (2, .int (nI (k4 + 1)))]) (w2 := wC G AD (AD 8 0) (AD 9 0) rd0 rd1 rd2 rd3 rd4 dy0 dy1 dy2 dy3 dy4 dy5 pa0 pa1 pa2 im0 im1 im2 pl0 pl1 pl2 pl3 pl4 pl5 pl6 pl7 pl8 er0 er1 er2 bk0 bk1 bk2 dr0 sh0 sh1 sh2 sh3 sh4 sh5 sh6 sh7 sh8 sp0 sp1 sp2 sp3 sp4 sp5 sp6 sp7 sp8) (by first | (rw [hb4]; done) | rfl) (by first | (rw [hb4]; done) | rfl) ?_
          exact ih4 (k4 + 1) (by omega)
  exact L4 sh8.toNatClampNeg 0 (Nat.zero_add _)

theorem iX9_told_X0 : ∀ z ∈ wsX00, z ∈ wsX9_told := fun z h => List.mem_cons_of_mem _ (List.mem_append_left _ (List.mem_append_left _ (List.mem_append_left _ (List.mem_append_left _ (List.mem_append_left _ (List.mem_append_right _ h))))))
theorem iX9_told_X1 : ∀ z ∈ wsX10, z ∈ wsX9_told := fun z h => List.mem_cons_of_mem _ (List.mem_append_left _ (List.mem_append_right _ h))
theorem iX9_told_X2 : ∀ z ∈ wsX20, z ∈ wsX9_told := fun z h => List.mem_cons_of_mem _ (List.mem_append_left _ (List.mem_append_left _ (List.mem_append_left _ (List.mem_append_right _ h))))
theorem iX9_told_X4 : ∀ z ∈ wsX40, z ∈ wsX9_told := fun z h => List.mem_cons_of_mem _ (List.mem_append_left _ (List.mem_append_left _ (List.mem_append_right _ h)))
theorem iX9_told_X6 : ∀ z ∈ wsX60, z ∈ wsX9_told := fun z h => List.mem_cons_of_mem _ (List.mem_append_right _ h)
theorem iX9_told_X8 : ∀ z ∈ wsX80, z ∈ wsX9_told := fun z h => List.mem_cons_of_mem _ (List.mem_append_left _ (List.mem_append_left _ (List.mem_append_left _ (List.mem_append_left _ (List.mem_append_right _ h)))))
theorem iX9_told_X9 : ∀ z ∈ wsX90, z ∈ wsX9_told := fun z h => List.mem_cons_of_mem _ (List.mem_append_left _ (List.mem_append_left _ (List.mem_append_left _ (List.mem_append_left _ (List.mem_append_left _ (List.mem_append_left _ (List.mem_append_right _ h)))))))
theorem kX9_told_68 : Cond.fieldLink RX9 68 "BathingCourt" (TX9 8).2.1 (TX9 8).2.2.1 ∈ wsX9_told := List.mem_of_getElem? (i := 1) rfl
theorem kX9_told_111 : Cond.fieldLink RX9 111 "BathingCourt$Beach" (TX0 6).2.1 (TX0 6).2.2.1 ∈ wsX9_told := List.mem_of_getElem? (i := 2) rfl
theorem kX9_told_114 : Cond.fieldLink RX9 114 "BathingCourt$Beach" (TX0 7).2.1 (TX0 7).2.2.1 ∈ wsX9_told := List.mem_of_getElem? (i := 3) rfl
theorem kX9_told_105 : Cond.fieldLink RX9 105 "BathingCourt$Beach" (TX0 8).2.1 (TX0 8).2.2.1 ∈ wsX9_told := List.mem_of_getElem? (i := 4) rfl
theorem kX9_told_10 : Cond.fieldLink RX9 10 "BathingCourt" (TX9 0).2.1 (TX9 0).2.2.1 ∈ wsX9_told := List.mem_of_getElem? (i := 5) rfl
theorem kX9_told_80 : Cond.fieldLink RX9 80 "BathingCourt$Reader" (TX8 2).2.1 (TX8 2).2.2.1 ∈ wsX9_told := List.mem_of_getElem? (i := 6) rfl
theorem kX9_told_19 : Cond.fieldLink RX9 19 "BathingCourt" (TX9 1).2.1 (TX9 1).2.2.1 ∈ wsX9_told := List.mem_of_getElem? (i := 7) rfl
theorem kX9_told_117 : Cond.fieldLink RX9 117 "BathingCourt$Day" (TX2 5).2.1 (TX2 5).2.2.1 ∈ wsX9_told := List.mem_of_getElem? (i := 8) rfl
theorem kX9_told_47 : Cond.fieldLink RX9 47 "BathingCourt" (TX9 5).2.1 (TX9 5).2.2.1 ∈ wsX9_told := List.mem_of_getElem? (i := 9) rfl
theorem kX9_told_128 : Cond.fieldLink RX9 128 "BathingCourt$Ear" (TX4 2).2.1 (TX4 2).2.2.1 ∈ wsX9_told := List.mem_of_getElem? (i := 10) rfl
theorem kX9_told_54 : Cond.fieldLink RX9 54 "BathingCourt" (TX9 6).2.1 (TX9 6).2.2.1 ∈ wsX9_told := List.mem_of_getElem? (i := 11) rfl
theorem kX9_told_131 : Cond.fieldLink RX9 131 "BathingCourt$Book" (TX1 2).2.1 (TX1 2).2.2.1 ∈ wsX9_told := List.mem_of_getElem? (i := 12) rfl
theorem kX9_told_26 : Cond.fieldLink RX9 26 "BathingCourt" (TX9 2).2.1 (TX9 2).2.2.1 ∈ wsX9_told := List.mem_of_getElem? (i := 13) rfl
theorem kX9_told_134 : Cond.fieldLink RX9 134 "BathingCourt$Past" (TX6 2).2.1 (TX6 2).2.2.1 ∈ wsX9_told := List.mem_of_getElem? (i := 14) rfl
theorem kX9_told_c79 : Jvm.Cond.constant RX9 79 (-1000000002) ∈ wsX9_told := List.mem_of_getElem? (i := 15) rfl
def rX9_told (rd2 : Int32) (dy3 : Nat → Int32) (dy5 pa2 er2 bk2 : Int32) (sh5 : Nat → Int32) (sh6 sh7 sh8 p0 : Int32) : Int32 := if p0 = 0 then sh6 else (if p0 = 1 then sh7 else (if p0 = 2 then sh8 else (if p0 = 3 then rd2 else (if p0 = 4 then dy5 else (if p0 = 5 then (rX2_setOf dy3 (0 : Int32) sh8) else (if p0 = 6 then (rX2_setOf dy3 (2 : Int32) sh8) else (if p0 = 7 then (rX2_setOf dy3 (3 : Int32) sh8) else (if p0 = 8 then (rX2_setOf dy3 (4 : Int32) sh8) else (if p0 = 9 then (rX9_owed dy3 sh5 sh8) else (if p0 = 10 then er2 else (if p0 = 11 then bk2 else (if p0 = 12 then pa2 else (-1000000002 : Int32)))))))))))))
set_option maxRecDepth 100000 in
set_option maxHeartbeats 4000000 in
theorem c_X9_told (l : Launch) (G : GT) (AD : Nat → Nat → Nat) (rd0 : Nat → Int32) (rd1 rd2 rd3 rd4 : Int32) (dy0 dy1 dy2 dy3 dy4 : Nat → Int32) (dy5 : Int32) (pa0 : Nat → Int32) (pa1 pa2 : Int32) (im0 im1 im2 pl0 pl1 pl2 pl3 pl4 pl5 : Nat → Int32) (pl6 pl7 pl8 : Int32) (er0 er1 : Nat → Int32) (er2 : Int32) (bk0 bk1 : Nat → Int32) (bk2 dr0 : Int32) (sh0 sh1 sh2 sh3 sh4 sh5 : Nat → Int32) (sh6 sh7 sh8 : Int32) (sp0 sp1 sp2 sp3 sp4 sp5 : Nat → Int32) (sp6 sp7 sp8 p0 : Int32) (ca : 0 ≤ sh8) (cb : sh8 ≤ 5) : Ci l G yX9_told wsX9_told (rmL 1) [.ref (AD 10 0), .int p0] (wC G AD (AD 8 0) (AD 9 0) rd0 rd1 rd2 rd3 rd4 dy0 dy1 dy2 dy3 dy4 dy5 pa0 pa1 pa2 im0 im1 im2 pl0 pl1 pl2 pl3 pl4 pl5 pl6 pl7 pl8 er0 er1 er2 bk0 bk1 bk2 dr0 sh0 sh1 sh2 sh3 sh4 sh5 sh6 sh7 sh8 sp0 sp1 sp2 sp3 sp4 sp5 sp6 sp7 sp8) (rX9_told rd2 dy3 dy5 pa2 er2 bk2 sh5 sh6 sh7 sh8 p0) (wC G AD (AD 8 0) (AD 9 0) rd0 rd1 rd2 rd3 rd4 dy0 dy1 dy2 dy3 dy4 dy5 pa0 pa1 pa2 im0 im1 im2 pl0 pl1 pl2 pl3 pl4 pl5 pl6 pl7 pl8 er0 er1 er2 bk0 bk1 bk2 dr0 sh0 sh1 sh2 sh3 sh4 sh5 sh6 sh7 sh8 sp0 sp1 sp2 sp3 sp4 sp5 sp6 sp7 sp8) := by
  refine ci_start .int (by decide) rfl rfl (Nat.le_of_ble_eq_true rfl) ?_
  intro p e s m args below meth c A X
  refine s_perm (lv2 := [(0, .ref (AD 10 0)), (1, .int p0)]) [0, 1] rfl ?_
  refine s_iload_n X (pc := 0) (x := p0) 1 dX9_told_0 rfl ?_
  by_cases c1_0 : p0 = 0
  ·
    refine s_tableIn X (pc := 1) (tgt := 68) dX9_told_1 (by rw [c1_0]; decide) (by rw [c1_0]; decide) (by rw [c1_0]; rfl) (by decide) ?_
    refine s_aload_n X (pc := 68) (x := (AD 10 0)) 0 dX9_told_68 rfl ?_
    refine s_get X (pc := 69) (v := .ref (AD 8 0)) iX9_told_X9 0 rfl rfl 8 (by decide) kX9_told_68 rfl rfl dX9_told_69 ?_
    refine s_get X (pc := 72) (v := .int sh6) iX9_told_X0 29 rfl rfl 6 (by decide) kX9_told_111 rfl rfl dX9_told_72 ?_
    exact s_iret X (pc := 75) (v := sh6) dX9_told_75 (Eq.symm (show rX9_told rd2 dy3 dy5 pa2 er2 bk2 sh5 sh6 sh7 sh8 p0 = sh6 from (by unfold rX9_told; exact (if_pos c1_0)))) rfl
  by_cases c1_1 : p0 = 1
  ·
    refine s_tableIn X (pc := 1) (tgt := 76) dX9_told_1 (by rw [c1_1]; decide) (by rw [c1_1]; decide) (by rw [c1_1]; rfl) (by decide) ?_
    refine s_aload_n X (pc := 76) (x := (AD 10 0)) 0 dX9_told_76 rfl ?_
    refine s_get X (pc := 77) (v := .ref (AD 8 0)) iX9_told_X9 0 rfl rfl 8 (by decide) kX9_told_68 rfl rfl dX9_told_77 ?_
    refine s_get X (pc := 80) (v := .int sh7) iX9_told_X0 29 rfl rfl 7 (by decide) kX9_told_114 rfl rfl dX9_told_80 ?_
    exact s_iret X (pc := 83) (v := sh7) dX9_told_83 (Eq.symm (show rX9_told rd2 dy3 dy5 pa2 er2 bk2 sh5 sh6 sh7 sh8 p0 = sh7 from (by unfold rX9_told; exact ((if_neg c1_0).trans (if_pos c1_1))))) rfl
  by_cases c1_2 : p0 = 2
  ·
    refine s_tableIn X (pc := 1) (tgt := 84) dX9_told_1 (by rw [c1_2]; decide) (by rw [c1_2]; decide) (by rw [c1_2]; rfl) (by decide) ?_
    refine s_aload_n X (pc := 84) (x := (AD 10 0)) 0 dX9_told_84 rfl ?_
    refine s_get X (pc := 85) (v := .ref (AD 8 0)) iX9_told_X9 0 rfl rfl 8 (by decide) kX9_told_68 rfl rfl dX9_told_85 ?_
    refine s_get X (pc := 88) (v := .int sh8) iX9_told_X0 29 rfl rfl 8 (by decide) kX9_told_105 rfl rfl dX9_told_88 ?_
    exact s_iret X (pc := 91) (v := sh8) dX9_told_91 (Eq.symm (show rX9_told rd2 dy3 dy5 pa2 er2 bk2 sh5 sh6 sh7 sh8 p0 = sh8 from (by unfold rX9_told; exact ((if_neg c1_0).trans ((if_neg c1_1).trans (if_pos c1_2)))))) rfl
  by_cases c1_3 : p0 = 3
  ·
    refine s_tableIn X (pc := 1) (tgt := 92) dX9_told_1 (by rw [c1_3]; decide) (by rw [c1_3]; decide) (by rw [c1_3]; rfl) (by decide) ?_
    refine s_aload_n X (pc := 92) (x := (AD 10 0)) 0 dX9_told_92 rfl ?_
    refine s_get X (pc := 93) (v := .ref (AD 0 0)) iX9_told_X9 0 rfl rfl 0 (by decide) kX9_told_10 rfl rfl dX9_told_93 ?_
    refine s_get X (pc := 96) (v := .int rd2) iX9_told_X8 1 rfl rfl 2 (by decide) kX9_told_80 rfl rfl dX9_told_96 ?_
    exact s_iret X (pc := 99) (v := rd2) dX9_told_99 (Eq.symm (show rX9_told rd2 dy3 dy5 pa2 er2 bk2 sh5 sh6 sh7 sh8 p0 = rd2 from (by unfold rX9_told; exact ((if_neg c1_0).trans ((if_neg c1_1).trans ((if_neg c1_2).trans (if_pos c1_3))))))) rfl
  by_cases c1_4 : p0 = 4
  ·
    refine s_tableIn X (pc := 1) (tgt := 100) dX9_told_1 (by rw [c1_4]; decide) (by rw [c1_4]; decide) (by rw [c1_4]; rfl) (by decide) ?_
    refine s_aload_n X (pc := 100) (x := (AD 10 0)) 0 dX9_told_100 rfl ?_
    refine s_get X (pc := 101) (v := .ref (AD 1 0)) iX9_told_X9 0 rfl rfl 1 (by decide) kX9_told_19 rfl rfl dX9_told_101 ?_
    refine s_get X (pc := 104) (v := .int dy5) iX9_told_X2 3 rfl rfl 5 (by decide) kX9_told_117 rfl rfl dX9_told_104 ?_
    exact s_iret X (pc := 107) (v := dy5) dX9_told_107 (Eq.symm (show rX9_told rd2 dy3 dy5 pa2 er2 bk2 sh5 sh6 sh7 sh8 p0 = dy5 from (by unfold rX9_told; exact ((if_neg c1_0).trans ((if_neg c1_1).trans ((if_neg c1_2).trans ((if_neg c1_3).trans (if_pos c1_4)))))))) rfl
  by_cases c1_5 : p0 = 5
  ·
    refine s_tableIn X (pc := 1) (tgt := 108) dX9_told_1 (by rw [c1_5]; decide) (by rw [c1_5]; decide) (by rw [c1_5]; rfl) (by decide) ?_
    refine s_aload_n X (pc := 108) (x := (AD 10 0)) 0 dX9_told_108 rfl ?_
    refine s_get X (pc := 109) (v := .ref (AD 1 0)) iX9_told_X9 0 rfl rfl 1 (by decide) kX9_told_19 rfl rfl dX9_told_109 ?_
    refine s_iconst X (pc := 112) (v := 0) dX9_told_112 (by decide) ?_
    refine s_aload_n X (pc := 113) (x := (AD 10 0)) 0 dX9_told_113 rfl ?_
    refine s_get X (pc := 114) (v := .ref (AD 8 0)) iX9_told_X9 0 rfl rfl 8 (by decide) kX9_told_68 rfl rfl dX9_told_114 ?_
    refine s_get X (pc := 117) (v := .int sh8) iX9_told_X0 29 rfl rfl 8 (by decide) kX9_told_105 rfl rfl dX9_told_117 ?_
    refine s_callVi0 X (pc := 120) (r := rX2_setOf dy3 (0 : Int32) sh8) (w := wC G AD (AD 8 0) (AD 9 0) rd0 rd1 rd2 rd3 rd4 dy0 dy1 dy2 dy3 dy4 dy5 pa0 pa1 pa2 im0 im1 im2 pl0 pl1 pl2 pl3 pl4 pl5 pl6 pl7 pl8 er0 er1 er2 bk0 bk1 bk2 dr0 sh0 sh1 sh2 sh3 sh4 sh5 sh6 sh7 sh8 sp0 sp1 sp2 sp3 sp4 sp5 sp6 sp7 sp8) (n := 2) (st := []) (As := [.int (0 : Int32), .int sh8]) (w2 := wC G AD (AD 8 0) (AD 9 0) rd0 rd1 rd2 rd3 rd4 dy0 dy1 dy2 dy3 dy4 dy5 pa0 pa1 pa2 im0 im1 im2 pl0 pl1 pl2 pl3 pl4 pl5 pl6 pl7 pl8 er0 er1 er2 bk0 bk1 bk2 dr0 sh0 sh1 sh2 sh3 sh4 sh5 sh6 sh7 sh8 sp0 sp1 sp2 sp3 sp4 sp5 sp6 sp7 sp8) 0 (c_L1_X2_setOf l G AD (AD 8 0) (AD 9 0) rd0 rd1 rd2 rd3 rd4 dy0 dy1 dy2 dy3 dy4 dy5 pa0 pa1 pa2 im0 im1 im2 pl0 pl1 pl2 pl3 pl4 pl5 pl6 pl7 pl8 er0 er1 er2 bk0 bk1 bk2 dr0 sh0 sh1 sh2 sh3 sh4 sh5 sh6 sh7 sh8 sp0 sp1 sp2 sp3 sp4 sp5 sp6 sp7 sp8 (0 : Int32) sh8 (by first | with_reducible assumption | grind) (by first | with_reducible assumption | grind)) gX9_told_X2_setOf rfl (by decide +kernel) ⟨Nat.le_of_ble_eq_true rfl, Nat.le_of_ble_eq_true rfl⟩ 3 rfl rfl rfl rfl (Nat.le_of_ble_eq_true rfl) (Nat.zero_le _) (Nat.zero_le _) dX9_told_120 ?_
    exact s_iret X (pc := 123) (v := rX2_setOf dy3 (0 : Int32) sh8) dX9_told_123 (Eq.symm (show rX9_told rd2 dy3 dy5 pa2 er2 bk2 sh5 sh6 sh7 sh8 p0 = rX2_setOf dy3 (0 : Int32) sh8 from (by unfold rX9_told; exact ((if_neg c1_0).trans ((if_neg c1_1).trans ((if_neg c1_2).trans ((if_neg c1_3).trans ((if_neg c1_4).trans (if_pos c1_5))))))))) rfl
  by_cases c1_6 : p0 = 6
  ·
    refine s_tableIn X (pc := 1) (tgt := 124) dX9_told_1 (by rw [c1_6]; decide) (by rw [c1_6]; decide) (by rw [c1_6]; rfl) (by decide) ?_
    refine s_aload_n X (pc := 124) (x := (AD 10 0)) 0 dX9_told_124 rfl ?_
    refine s_get X (pc := 125) (v := .ref (AD 1 0)) iX9_told_X9 0 rfl rfl 1 (by decide) kX9_told_19 rfl rfl dX9_told_125 ?_
    refine s_iconst X (pc := 128) (v := 2) dX9_told_128 (by decide) ?_
    refine s_aload_n X (pc := 129) (x := (AD 10 0)) 0 dX9_told_129 rfl ?_
    refine s_get X (pc := 130) (v := .ref (AD 8 0)) iX9_told_X9 0 rfl rfl 8 (by decide) kX9_told_68 rfl rfl dX9_told_130 ?_
    refine s_get X (pc := 133) (v := .int sh8) iX9_told_X0 29 rfl rfl 8 (by decide) kX9_told_105 rfl rfl dX9_told_133 ?_
    refine s_callVi0 X (pc := 136) (r := rX2_setOf dy3 (2 : Int32) sh8) (w := wC G AD (AD 8 0) (AD 9 0) rd0 rd1 rd2 rd3 rd4 dy0 dy1 dy2 dy3 dy4 dy5 pa0 pa1 pa2 im0 im1 im2 pl0 pl1 pl2 pl3 pl4 pl5 pl6 pl7 pl8 er0 er1 er2 bk0 bk1 bk2 dr0 sh0 sh1 sh2 sh3 sh4 sh5 sh6 sh7 sh8 sp0 sp1 sp2 sp3 sp4 sp5 sp6 sp7 sp8) (n := 2) (st := []) (As := [.int (2 : Int32), .int sh8]) (w2 := wC G AD (AD 8 0) (AD 9 0) rd0 rd1 rd2 rd3 rd4 dy0 dy1 dy2 dy3 dy4 dy5 pa0 pa1 pa2 im0 im1 im2 pl0 pl1 pl2 pl3 pl4 pl5 pl6 pl7 pl8 er0 er1 er2 bk0 bk1 bk2 dr0 sh0 sh1 sh2 sh3 sh4 sh5 sh6 sh7 sh8 sp0 sp1 sp2 sp3 sp4 sp5 sp6 sp7 sp8) 0 (c_L1_X2_setOf l G AD (AD 8 0) (AD 9 0) rd0 rd1 rd2 rd3 rd4 dy0 dy1 dy2 dy3 dy4 dy5 pa0 pa1 pa2 im0 im1 im2 pl0 pl1 pl2 pl3 pl4 pl5 pl6 pl7 pl8 er0 er1 er2 bk0 bk1 bk2 dr0 sh0 sh1 sh2 sh3 sh4 sh5 sh6 sh7 sh8 sp0 sp1 sp2 sp3 sp4 sp5 sp6 sp7 sp8 (2 : Int32) sh8 (by first | with_reducible assumption | grind) (by first | with_reducible assumption | grind)) gX9_told_X2_setOf rfl (by decide +kernel) ⟨Nat.le_of_ble_eq_true rfl, Nat.le_of_ble_eq_true rfl⟩ 3 rfl rfl rfl rfl (Nat.le_of_ble_eq_true rfl) (Nat.zero_le _) (Nat.zero_le _) dX9_told_136 ?_
    exact s_iret X (pc := 139) (v := rX2_setOf dy3 (2 : Int32) sh8) dX9_told_139 (Eq.symm (show rX9_told rd2 dy3 dy5 pa2 er2 bk2 sh5 sh6 sh7 sh8 p0 = rX2_setOf dy3 (2 : Int32) sh8 from (by unfold rX9_told; exact ((if_neg c1_0).trans ((if_neg c1_1).trans ((if_neg c1_2).trans ((if_neg c1_3).trans ((if_neg c1_4).trans ((if_neg c1_5).trans (if_pos c1_6)))))))))) rfl
  by_cases c1_7 : p0 = 7
  ·
    refine s_tableIn X (pc := 1) (tgt := 140) dX9_told_1 (by rw [c1_7]; decide) (by rw [c1_7]; decide) (by rw [c1_7]; rfl) (by decide) ?_
    refine s_aload_n X (pc := 140) (x := (AD 10 0)) 0 dX9_told_140 rfl ?_
    refine s_get X (pc := 141) (v := .ref (AD 1 0)) iX9_told_X9 0 rfl rfl 1 (by decide) kX9_told_19 rfl rfl dX9_told_141 ?_
    refine s_iconst X (pc := 144) (v := 3) dX9_told_144 (by decide) ?_
    refine s_aload_n X (pc := 145) (x := (AD 10 0)) 0 dX9_told_145 rfl ?_
    refine s_get X (pc := 146) (v := .ref (AD 8 0)) iX9_told_X9 0 rfl rfl 8 (by decide) kX9_told_68 rfl rfl dX9_told_146 ?_
    refine s_get X (pc := 149) (v := .int sh8) iX9_told_X0 29 rfl rfl 8 (by decide) kX9_told_105 rfl rfl dX9_told_149 ?_
    refine s_callVi0 X (pc := 152) (r := rX2_setOf dy3 (3 : Int32) sh8) (w := wC G AD (AD 8 0) (AD 9 0) rd0 rd1 rd2 rd3 rd4 dy0 dy1 dy2 dy3 dy4 dy5 pa0 pa1 pa2 im0 im1 im2 pl0 pl1 pl2 pl3 pl4 pl5 pl6 pl7 pl8 er0 er1 er2 bk0 bk1 bk2 dr0 sh0 sh1 sh2 sh3 sh4 sh5 sh6 sh7 sh8 sp0 sp1 sp2 sp3 sp4 sp5 sp6 sp7 sp8) (n := 2) (st := []) (As := [.int (3 : Int32), .int sh8]) (w2 := wC G AD (AD 8 0) (AD 9 0) rd0 rd1 rd2 rd3 rd4 dy0 dy1 dy2 dy3 dy4 dy5 pa0 pa1 pa2 im0 im1 im2 pl0 pl1 pl2 pl3 pl4 pl5 pl6 pl7 pl8 er0 er1 er2 bk0 bk1 bk2 dr0 sh0 sh1 sh2 sh3 sh4 sh5 sh6 sh7 sh8 sp0 sp1 sp2 sp3 sp4 sp5 sp6 sp7 sp8) 0 (c_L1_X2_setOf l G AD (AD 8 0) (AD 9 0) rd0 rd1 rd2 rd3 rd4 dy0 dy1 dy2 dy3 dy4 dy5 pa0 pa1 pa2 im0 im1 im2 pl0 pl1 pl2 pl3 pl4 pl5 pl6 pl7 pl8 er0 er1 er2 bk0 bk1 bk2 dr0 sh0 sh1 sh2 sh3 sh4 sh5 sh6 sh7 sh8 sp0 sp1 sp2 sp3 sp4 sp5 sp6 sp7 sp8 (3 : Int32) sh8 (by first | with_reducible assumption | grind) (by first | with_reducible assumption | grind)) gX9_told_X2_setOf rfl (by decide +kernel) ⟨Nat.le_of_ble_eq_true rfl, Nat.le_of_ble_eq_true rfl⟩ 3 rfl rfl rfl rfl (Nat.le_of_ble_eq_true rfl) (Nat.zero_le _) (Nat.zero_le _) dX9_told_152 ?_
    exact s_iret X (pc := 155) (v := rX2_setOf dy3 (3 : Int32) sh8) dX9_told_155 (Eq.symm (show rX9_told rd2 dy3 dy5 pa2 er2 bk2 sh5 sh6 sh7 sh8 p0 = rX2_setOf dy3 (3 : Int32) sh8 from (by unfold rX9_told; exact ((if_neg c1_0).trans ((if_neg c1_1).trans ((if_neg c1_2).trans ((if_neg c1_3).trans ((if_neg c1_4).trans ((if_neg c1_5).trans ((if_neg c1_6).trans (if_pos c1_7))))))))))) rfl
  by_cases c1_8 : p0 = 8
  ·
    refine s_tableIn X (pc := 1) (tgt := 156) dX9_told_1 (by rw [c1_8]; decide) (by rw [c1_8]; decide) (by rw [c1_8]; rfl) (by decide) ?_
    refine s_aload_n X (pc := 156) (x := (AD 10 0)) 0 dX9_told_156 rfl ?_
    refine s_get X (pc := 157) (v := .ref (AD 1 0)) iX9_told_X9 0 rfl rfl 1 (by decide) kX9_told_19 rfl rfl dX9_told_157 ?_
    refine s_iconst X (pc := 160) (v := 4) dX9_told_160 (by decide) ?_
    refine s_aload_n X (pc := 161) (x := (AD 10 0)) 0 dX9_told_161 rfl ?_
    refine s_get X (pc := 162) (v := .ref (AD 8 0)) iX9_told_X9 0 rfl rfl 8 (by decide) kX9_told_68 rfl rfl dX9_told_162 ?_
    refine s_get X (pc := 165) (v := .int sh8) iX9_told_X0 29 rfl rfl 8 (by decide) kX9_told_105 rfl rfl dX9_told_165 ?_
    refine s_callVi0 X (pc := 168) (r := rX2_setOf dy3 (4 : Int32) sh8) (w := wC G AD (AD 8 0) (AD 9 0) rd0 rd1 rd2 rd3 rd4 dy0 dy1 dy2 dy3 dy4 dy5 pa0 pa1 pa2 im0 im1 im2 pl0 pl1 pl2 pl3 pl4 pl5 pl6 pl7 pl8 er0 er1 er2 bk0 bk1 bk2 dr0 sh0 sh1 sh2 sh3 sh4 sh5 sh6 sh7 sh8 sp0 sp1 sp2 sp3 sp4 sp5 sp6 sp7 sp8) (n := 2) (st := []) (As := [.int (4 : Int32), .int sh8]) (w2 := wC G AD (AD 8 0) (AD 9 0) rd0 rd1 rd2 rd3 rd4 dy0 dy1 dy2 dy3 dy4 dy5 pa0 pa1 pa2 im0 im1 im2 pl0 pl1 pl2 pl3 pl4 pl5 pl6 pl7 pl8 er0 er1 er2 bk0 bk1 bk2 dr0 sh0 sh1 sh2 sh3 sh4 sh5 sh6 sh7 sh8 sp0 sp1 sp2 sp3 sp4 sp5 sp6 sp7 sp8) 0 (c_L1_X2_setOf l G AD (AD 8 0) (AD 9 0) rd0 rd1 rd2 rd3 rd4 dy0 dy1 dy2 dy3 dy4 dy5 pa0 pa1 pa2 im0 im1 im2 pl0 pl1 pl2 pl3 pl4 pl5 pl6 pl7 pl8 er0 er1 er2 bk0 bk1 bk2 dr0 sh0 sh1 sh2 sh3 sh4 sh5 sh6 sh7 sh8 sp0 sp1 sp2 sp3 sp4 sp5 sp6 sp7 sp8 (4 : Int32) sh8 (by first | with_reducible assumption | grind) (by first | with_reducible assumption | grind)) gX9_told_X2_setOf rfl (by decide +kernel) ⟨Nat.le_of_ble_eq_true rfl, Nat.le_of_ble_eq_true rfl⟩ 3 rfl rfl rfl rfl (Nat.le_of_ble_eq_true rfl) (Nat.zero_le _) (Nat.zero_le _) dX9_told_168 ?_
    exact s_iret X (pc := 171) (v := rX2_setOf dy3 (4 : Int32) sh8) dX9_told_171 (Eq.symm (show rX9_told rd2 dy3 dy5 pa2 er2 bk2 sh5 sh6 sh7 sh8 p0 = rX2_setOf dy3 (4 : Int32) sh8 from (by unfold rX9_told; exact ((if_neg c1_0).trans ((if_neg c1_1).trans ((if_neg c1_2).trans ((if_neg c1_3).trans ((if_neg c1_4).trans ((if_neg c1_5).trans ((if_neg c1_6).trans ((if_neg c1_7).trans (if_pos c1_8)))))))))))) rfl
  by_cases c1_9 : p0 = 9
  ·
    refine s_tableIn X (pc := 1) (tgt := 172) dX9_told_1 (by rw [c1_9]; decide) (by rw [c1_9]; decide) (by rw [c1_9]; rfl) (by decide) ?_
    refine s_aload_n X (pc := 172) (x := (AD 10 0)) 0 dX9_told_172 rfl ?_
    refine s_callVi0 X (pc := 173) (r := rX9_owed dy3 sh5 sh8) (w := wC G AD (AD 8 0) (AD 9 0) rd0 rd1 rd2 rd3 rd4 dy0 dy1 dy2 dy3 dy4 dy5 pa0 pa1 pa2 im0 im1 im2 pl0 pl1 pl2 pl3 pl4 pl5 pl6 pl7 pl8 er0 er1 er2 bk0 bk1 bk2 dr0 sh0 sh1 sh2 sh3 sh4 sh5 sh6 sh7 sh8 sp0 sp1 sp2 sp3 sp4 sp5 sp6 sp7 sp8) (n := 0) (st := []) (As := []) (w2 := wC G AD (AD 8 0) (AD 9 0) rd0 rd1 rd2 rd3 rd4 dy0 dy1 dy2 dy3 dy4 dy5 pa0 pa1 pa2 im0 im1 im2 pl0 pl1 pl2 pl3 pl4 pl5 pl6 pl7 pl8 er0 er1 er2 bk0 bk1 bk2 dr0 sh0 sh1 sh2 sh3 sh4 sh5 sh6 sh7 sh8 sp0 sp1 sp2 sp3 sp4 sp5 sp6 sp7 sp8) 0 (c_X9_owed l G AD rd0 rd1 rd2 rd3 rd4 dy0 dy1 dy2 dy3 dy4 dy5 pa0 pa1 pa2 im0 im1 im2 pl0 pl1 pl2 pl3 pl4 pl5 pl6 pl7 pl8 er0 er1 er2 bk0 bk1 bk2 dr0 sh0 sh1 sh2 sh3 sh4 sh5 sh6 sh7 sh8 sp0 sp1 sp2 sp3 sp4 sp5 sp6 sp7 sp8 (by first | with_reducible assumption | grind) (by first | with_reducible assumption | grind)) gX9_told_X9_owed rfl (by decide +kernel) ⟨Nat.le_of_ble_eq_true rfl, Nat.le_of_ble_eq_true rfl⟩ 0 rfl rfl rfl rfl (Nat.le_of_ble_eq_true rfl) (Nat.zero_le _) (Nat.zero_le _) dX9_told_173 ?_
    exact s_iret X (pc := 176) (v := rX9_owed dy3 sh5 sh8) dX9_told_176 (Eq.symm (show rX9_told rd2 dy3 dy5 pa2 er2 bk2 sh5 sh6 sh7 sh8 p0 = rX9_owed dy3 sh5 sh8 from (by unfold rX9_told; exact ((if_neg c1_0).trans ((if_neg c1_1).trans ((if_neg c1_2).trans ((if_neg c1_3).trans ((if_neg c1_4).trans ((if_neg c1_5).trans ((if_neg c1_6).trans ((if_neg c1_7).trans ((if_neg c1_8).trans (if_pos c1_9))))))))))))) rfl
  by_cases c1_10 : p0 = 10
  ·
    refine s_tableIn X (pc := 1) (tgt := 177) dX9_told_1 (by rw [c1_10]; decide) (by rw [c1_10]; decide) (by rw [c1_10]; rfl) (by decide) ?_
    refine s_aload_n X (pc := 177) (x := (AD 10 0)) 0 dX9_told_177 rfl ?_
    refine s_get X (pc := 178) (v := .ref (AD 5 0)) iX9_told_X9 0 rfl rfl 5 (by decide) kX9_told_47 rfl rfl dX9_told_178 ?_
    refine s_get X (pc := 181) (v := .int er2) iX9_told_X4 22 rfl rfl 2 (by decide) kX9_told_128 rfl rfl dX9_told_181 ?_
    exact s_iret X (pc := 184) (v := er2) dX9_told_184 (Eq.symm (show rX9_told rd2 dy3 dy5 pa2 er2 bk2 sh5 sh6 sh7 sh8 p0 = er2 from (by unfold rX9_told; exact ((if_neg c1_0).trans ((if_neg c1_1).trans ((if_neg c1_2).trans ((if_neg c1_3).trans ((if_neg c1_4).trans ((if_neg c1_5).trans ((if_neg c1_6).trans ((if_neg c1_7).trans ((if_neg c1_8).trans ((if_neg c1_9).trans (if_pos c1_10)))))))))))))) rfl
  by_cases c1_11 : p0 = 11
  ·
    refine s_tableIn X (pc := 1) (tgt := 185) dX9_told_1 (by rw [c1_11]; decide) (by rw [c1_11]; decide) (by rw [c1_11]; rfl) (by decide) ?_
    refine s_aload_n X (pc := 185) (x := (AD 10 0)) 0 dX9_told_185 rfl ?_
    refine s_get X (pc := 186) (v := .ref (AD 6 0)) iX9_told_X9 0 rfl rfl 6 (by decide) kX9_told_54 rfl rfl dX9_told_186 ?_
    refine s_get X (pc := 189) (v := .int bk2) iX9_told_X1 25 rfl rfl 2 (by decide) kX9_told_131 rfl rfl dX9_told_189 ?_
    exact s_iret X (pc := 192) (v := bk2) dX9_told_192 (Eq.symm (show rX9_told rd2 dy3 dy5 pa2 er2 bk2 sh5 sh6 sh7 sh8 p0 = bk2 from (by unfold rX9_told; exact ((if_neg c1_0).trans ((if_neg c1_1).trans ((if_neg c1_2).trans ((if_neg c1_3).trans ((if_neg c1_4).trans ((if_neg c1_5).trans ((if_neg c1_6).trans ((if_neg c1_7).trans ((if_neg c1_8).trans ((if_neg c1_9).trans ((if_neg c1_10).trans (if_pos c1_11))))))))))))))) rfl
  by_cases c1_12 : p0 = 12
  ·
    refine s_tableIn X (pc := 1) (tgt := 193) dX9_told_1 (by rw [c1_12]; decide) (by rw [c1_12]; decide) (by rw [c1_12]; rfl) (by decide) ?_
    refine s_aload_n X (pc := 193) (x := (AD 10 0)) 0 dX9_told_193 rfl ?_
    refine s_get X (pc := 194) (v := .ref (AD 2 0)) iX9_told_X9 0 rfl rfl 2 (by decide) kX9_told_26 rfl rfl dX9_told_194 ?_
    refine s_get X (pc := 197) (v := .int pa2) iX9_told_X6 9 rfl rfl 2 (by decide) kX9_told_134 rfl rfl dX9_told_197 ?_
    exact s_iret X (pc := 200) (v := pa2) dX9_told_200 (Eq.symm (show rX9_told rd2 dy3 dy5 pa2 er2 bk2 sh5 sh6 sh7 sh8 p0 = pa2 from (by unfold rX9_told; exact ((if_neg c1_0).trans ((if_neg c1_1).trans ((if_neg c1_2).trans ((if_neg c1_3).trans ((if_neg c1_4).trans ((if_neg c1_5).trans ((if_neg c1_6).trans ((if_neg c1_7).trans ((if_neg c1_8).trans ((if_neg c1_9).trans ((if_neg c1_10).trans ((if_neg c1_11).trans (if_pos c1_12)))))))))))))))) rfl
  refine s_tableOut X (pc := 1) (tgt := 201) dX9_told_1 (sw_out12 c1_0 c1_1 c1_2 c1_3 c1_4 c1_5 c1_6 c1_7 c1_8 c1_9 c1_10 c1_11 c1_12) (by decide) ?_
  refine s_ldc X (pc := 201) (v := -1000000002) kX9_told_c79 dX9_told_201 ?_
  exact s_iret X (pc := 203) (v := (-1000000002 : Int32)) dX9_told_203 (Eq.symm (show rX9_told rd2 dy3 dy5 pa2 er2 bk2 sh5 sh6 sh7 sh8 p0 = (-1000000002 : Int32) from (by unfold rX9_told; exact ((if_neg c1_0).trans ((if_neg c1_1).trans ((if_neg c1_2).trans ((if_neg c1_3).trans ((if_neg c1_4).trans ((if_neg c1_5).trans ((if_neg c1_6).trans ((if_neg c1_7).trans ((if_neg c1_8).trans ((if_neg c1_9).trans ((if_neg c1_10).trans ((if_neg c1_11).trans (if_neg c1_12)))))))))))))))) rfl

theorem iX9_depth_X9 : ∀ z ∈ wsX90, z ∈ wsX9_depth := fun z h => List.mem_cons_of_mem _ (List.mem_append_left _ (List.mem_append_left _ (List.mem_append_right _ h)))
theorem kX9_depth_c79 : Jvm.Cond.constant RX9 79 (-1000000002) ∈ wsX9_depth := List.mem_of_getElem? (i := 1) rfl
theorem kX9_depth_68 : Cond.fieldLink RX9 68 "BathingCourt" (TX9 8).2.1 (TX9 8).2.2.1 ∈ wsX9_depth := List.mem_of_getElem? (i := 2) rfl
theorem kX9_depth_c145 : Jvm.Cond.constant RX9 145 (-1000000003) ∈ wsX9_depth := List.mem_of_getElem? (i := 3) rfl
def rX9_depth (dy5 : Int32) (sh0 : Nat → Int32) (sh6 p0 p1 : Int32) : Int32 := if (rX9_isNoCell p0) = 0 then (if (rX9_isOutside p1 (0 : Int32) (99 : Int32)) = 0 then (if (rX0_stands sh6) = 0 then (-1000000003 : Int32) else (rX9_depthBehind dy5 sh0 sh6 p0 p1)) else (-1000000002 : Int32)) else (-1000000002 : Int32)
set_option maxRecDepth 100000 in
set_option maxHeartbeats 4000000 in
theorem c_X9_depth (l : Launch) (G : GT) (AD : Nat → Nat → Nat) (rd0 : Nat → Int32) (rd1 rd2 rd3 rd4 : Int32) (dy0 dy1 dy2 dy3 dy4 : Nat → Int32) (dy5 : Int32) (pa0 : Nat → Int32) (pa1 pa2 : Int32) (im0 im1 im2 pl0 pl1 pl2 pl3 pl4 pl5 : Nat → Int32) (pl6 pl7 pl8 : Int32) (er0 er1 : Nat → Int32) (er2 : Int32) (bk0 bk1 : Nat → Int32) (bk2 dr0 : Int32) (sh0 sh1 sh2 sh3 sh4 sh5 : Nat → Int32) (sh6 sh7 sh8 : Int32) (sp0 sp1 sp2 sp3 sp4 sp5 : Nat → Int32) (sp6 sp7 sp8 p0 p1 : Int32) (t12 : sh6 ≤ 12) : Ci l G yX9_depth wsX9_depth (rmL 2) [.ref (AD 10 0), .int p0, .int p1] (wC G AD (AD 8 0) (AD 9 0) rd0 rd1 rd2 rd3 rd4 dy0 dy1 dy2 dy3 dy4 dy5 pa0 pa1 pa2 im0 im1 im2 pl0 pl1 pl2 pl3 pl4 pl5 pl6 pl7 pl8 er0 er1 er2 bk0 bk1 bk2 dr0 sh0 sh1 sh2 sh3 sh4 sh5 sh6 sh7 sh8 sp0 sp1 sp2 sp3 sp4 sp5 sp6 sp7 sp8) (rX9_depth dy5 sh0 sh6 p0 p1) (wC G AD (AD 8 0) (AD 9 0) rd0 rd1 rd2 rd3 rd4 dy0 dy1 dy2 dy3 dy4 dy5 pa0 pa1 pa2 im0 im1 im2 pl0 pl1 pl2 pl3 pl4 pl5 pl6 pl7 pl8 er0 er1 er2 bk0 bk1 bk2 dr0 sh0 sh1 sh2 sh3 sh4 sh5 sh6 sh7 sh8 sp0 sp1 sp2 sp3 sp4 sp5 sp6 sp7 sp8) := by
  refine ci_start .int (by decide) rfl rfl (Nat.le_of_ble_eq_true rfl) ?_
  intro p e s m args below meth c A X
  refine s_perm (lv2 := [(0, .ref (AD 10 0)), (1, .int p0), (2, .int p1)]) [0, 1, 2] rfl ?_
  refine s_iload_n X (pc := 0) (x := p0) 1 dX9_depth_0 rfl ?_
  refine s_callSiN X (pc := 1) (r := rX9_isNoCell p0) (n := 1) (st := []) (As := [.int p0]) 1 (c_X9_isNoCell l G p0) gX9_depth_X9_isNoCell rfl (by decide +kernel) ⟨Nat.le_of_ble_eq_true rfl, Nat.le_of_ble_eq_true rfl⟩ rfl rfl (Nat.le_of_ble_eq_true rfl) (Nat.zero_le _) (Nat.zero_le _) dX9_depth_1 ?_
  refine s_if_ne X (pc := 4) (tgt := 17) dX9_depth_4 (by decide) (fun c4 => ?_) (fun c4 => ?_)
  ·
    refine s_ldc X (pc := 17) (v := -1000000002) kX9_depth_c79 dX9_depth_17 ?_
    exact s_iret X (pc := 19) (v := (-1000000002 : Int32)) dX9_depth_19 (Eq.symm (show rX9_depth dy5 sh0 sh6 p0 p1 = (-1000000002 : Int32) from (by unfold rX9_depth; exact (if_neg c4)))) rfl
  ·
    refine s_iload_n X (pc := 7) (x := p1) 2 dX9_depth_7 rfl ?_
    refine s_iconst X (pc := 8) (v := 0) dX9_depth_8 (by decide) ?_
    refine s_bipush X (pc := 9) (v := 99) dX9_depth_9 (by decide) ?_
    refine s_callSiN X (pc := 11) (r := rX9_isOutside p1 (0 : Int32) (99 : Int32)) (n := 3) (st := []) (As := [.int p1, .int (0 : Int32), .int (99 : Int32)]) 0 (c_X9_isOutside l G p1 (0 : Int32) (99 : Int32)) gX9_depth_X9_isOutside rfl (by decide +kernel) ⟨Nat.le_of_ble_eq_true rfl, Nat.le_of_ble_eq_true rfl⟩ rfl rfl (Nat.le_of_ble_eq_true rfl) (Nat.zero_le _) (Nat.zero_le _) dX9_depth_11 ?_
    refine s_if_eq X (pc := 14) (tgt := 20) dX9_depth_14 (by decide) (fun c14 => ?_) (fun c14 => ?_)
    ·
      refine s_aload_n X (pc := 20) (x := (AD 10 0)) 0 dX9_depth_20 rfl ?_
      refine s_get X (pc := 21) (v := .ref (AD 8 0)) iX9_depth_X9 0 rfl rfl 8 (by decide) kX9_depth_68 rfl rfl dX9_depth_21 ?_
      refine s_callVi0 X (pc := 24) (r := rX0_stands sh6) (w := wC G AD (AD 8 0) (AD 9 0) rd0 rd1 rd2 rd3 rd4 dy0 dy1 dy2 dy3 dy4 dy5 pa0 pa1 pa2 im0 im1 im2 pl0 pl1 pl2 pl3 pl4 pl5 pl6 pl7 pl8 er0 er1 er2 bk0 bk1 bk2 dr0 sh0 sh1 sh2 sh3 sh4 sh5 sh6 sh7 sh8 sp0 sp1 sp2 sp3 sp4 sp5 sp6 sp7 sp8) (n := 0) (st := []) (As := []) (w2 := wC G AD (AD 8 0) (AD 9 0) rd0 rd1 rd2 rd3 rd4 dy0 dy1 dy2 dy3 dy4 dy5 pa0 pa1 pa2 im0 im1 im2 pl0 pl1 pl2 pl3 pl4 pl5 pl6 pl7 pl8 er0 er1 er2 bk0 bk1 bk2 dr0 sh0 sh1 sh2 sh3 sh4 sh5 sh6 sh7 sh8 sp0 sp1 sp2 sp3 sp4 sp5 sp6 sp7 sp8) 0 (c_L8_X0_stands l G AD (AD 8 0) (AD 9 0) rd0 rd1 rd2 rd3 rd4 dy0 dy1 dy2 dy3 dy4 dy5 pa0 pa1 pa2 im0 im1 im2 pl0 pl1 pl2 pl3 pl4 pl5 pl6 pl7 pl8 er0 er1 er2 bk0 bk1 bk2 dr0 sh0 sh1 sh2 sh3 sh4 sh5 sh6 sh7 sh8 sp0 sp1 sp2 sp3 sp4 sp5 sp6 sp7 sp8) gX9_depth_X0_stands rfl (by decide +kernel) ⟨Nat.le_of_ble_eq_true rfl, Nat.le_of_ble_eq_true rfl⟩ 29 rfl rfl rfl rfl (Nat.le_of_ble_eq_true rfl) (Nat.zero_le _) (Nat.zero_le _) dX9_depth_24 ?_
      refine s_if_ne X (pc := 27) (tgt := 33) dX9_depth_27 (by decide) (fun c27 => ?_) (fun c27 => ?_)
      ·
        refine s_aload_n X (pc := 33) (x := (AD 10 0)) 0 dX9_depth_33 rfl ?_
        refine s_iload_n X (pc := 34) (x := p0) 1 dX9_depth_34 rfl ?_
        refine s_iload_n X (pc := 35) (x := p1) 2 dX9_depth_35 rfl ?_
        refine s_callVi0 X (pc := 36) (r := rX9_depthBehind dy5 sh0 sh6 p0 p1) (w := wC G AD (AD 8 0) (AD 9 0) rd0 rd1 rd2 rd3 rd4 dy0 dy1 dy2 dy3 dy4 dy5 pa0 pa1 pa2 im0 im1 im2 pl0 pl1 pl2 pl3 pl4 pl5 pl6 pl7 pl8 er0 er1 er2 bk0 bk1 bk2 dr0 sh0 sh1 sh2 sh3 sh4 sh5 sh6 sh7 sh8 sp0 sp1 sp2 sp3 sp4 sp5 sp6 sp7 sp8) (n := 2) (st := []) (As := [.int p0, .int p1]) (w2 := wC G AD (AD 8 0) (AD 9 0) rd0 rd1 rd2 rd3 rd4 dy0 dy1 dy2 dy3 dy4 dy5 pa0 pa1 pa2 im0 im1 im2 pl0 pl1 pl2 pl3 pl4 pl5 pl6 pl7 pl8 er0 er1 er2 bk0 bk1 bk2 dr0 sh0 sh1 sh2 sh3 sh4 sh5 sh6 sh7 sh8 sp0 sp1 sp2 sp3 sp4 sp5 sp6 sp7 sp8) 1 (c_X9_depthBehind l G AD rd0 rd1 rd2 rd3 rd4 dy0 dy1 dy2 dy3 dy4 dy5 pa0 pa1 pa2 im0 im1 im2 pl0 pl1 pl2 pl3 pl4 pl5 pl6 pl7 pl8 er0 er1 er2 bk0 bk1 bk2 dr0 sh0 sh1 sh2 sh3 sh4 sh5 sh6 sh7 sh8 sp0 sp1 sp2 sp3 sp4 sp5 sp6 sp7 sp8 p0 p1 (by first | with_reducible assumption | grind)) gX9_depth_X9_depthBehind rfl (by decide +kernel) ⟨Nat.le_of_ble_eq_true rfl, Nat.le_of_ble_eq_true rfl⟩ 0 rfl rfl rfl rfl (Nat.le_of_ble_eq_true rfl) (Nat.zero_le _) (Nat.zero_le _) dX9_depth_36 ?_
        exact s_iret X (pc := 39) (v := rX9_depthBehind dy5 sh0 sh6 p0 p1) dX9_depth_39 (Eq.symm (show rX9_depth dy5 sh0 sh6 p0 p1 = rX9_depthBehind dy5 sh0 sh6 p0 p1 from (by unfold rX9_depth; exact ((if_pos c4).trans ((if_pos c14).trans (if_neg c27)))))) rfl
      ·
        refine s_ldc X (pc := 30) (v := -1000000003) kX9_depth_c145 dX9_depth_30 ?_
        exact s_iret X (pc := 32) (v := (-1000000003 : Int32)) dX9_depth_32 (Eq.symm (show rX9_depth dy5 sh0 sh6 p0 p1 = (-1000000003 : Int32) from (by unfold rX9_depth; exact ((if_pos c4).trans ((if_pos c14).trans (if_pos c27)))))) rfl
    ·
      refine s_ldc X (pc := 17) (v := -1000000002) kX9_depth_c79 dX9_depth_17 ?_
      exact s_iret X (pc := 19) (v := (-1000000002 : Int32)) dX9_depth_19 (Eq.symm (show rX9_depth dy5 sh0 sh6 p0 p1 = (-1000000002 : Int32) from (by unfold rX9_depth; exact ((if_pos c4).trans (if_neg c14))))) rfl

theorem iX9_hut_X0 : ∀ z ∈ wsX00, z ∈ wsX9_hut := fun z h => List.mem_cons_of_mem _ (List.mem_append_left _ (List.mem_append_right _ h))
theorem iX9_hut_X2 : ∀ z ∈ wsX20, z ∈ wsX9_hut := fun z h => List.mem_cons_of_mem _ (List.mem_append_right _ h)
theorem iX9_hut_X9 : ∀ z ∈ wsX90, z ∈ wsX9_hut := fun z h => List.mem_cons_of_mem _ (List.mem_append_left _ (List.mem_append_left _ (List.mem_append_right _ h)))
theorem kX9_hut_68 : Cond.fieldLink RX9 68 "BathingCourt" (TX9 8).2.1 (TX9 8).2.2.1 ∈ wsX9_hut := List.mem_of_getElem? (i := 1) rfl
theorem kX9_hut_153 : Cond.fieldLink RX9 153 "BathingCourt$Beach" (TX0 1).2.1 (TX0 1).2.2.1 ∈ wsX9_hut := List.mem_of_getElem? (i := 3) rfl
theorem kX9_hut_19 : Cond.fieldLink RX9 19 "BathingCourt" (TX9 1).2.1 (TX9 1).2.2.1 ∈ wsX9_hut := List.mem_of_getElem? (i := 4) rfl
theorem kX9_hut_157 : Cond.fieldLink RX9 157 "BathingCourt$Day" (TX2 0).2.1 (TX2 0).2.2.1 ∈ wsX9_hut := List.mem_of_getElem? (i := 5) rfl
theorem kX9_hut_160 : Cond.fieldLink RX9 160 "BathingCourt$Day" (TX2 1).2.1 (TX2 1).2.2.1 ∈ wsX9_hut := List.mem_of_getElem? (i := 6) rfl
theorem kX9_hut_163 : Cond.fieldLink RX9 163 "BathingCourt$Day" (TX2 2).2.1 (TX2 2).2.2.1 ∈ wsX9_hut := List.mem_of_getElem? (i := 7) rfl
theorem kX9_hut_c79 : Jvm.Cond.constant RX9 79 (-1000000002) ∈ wsX9_hut := List.mem_of_getElem? (i := 8) rfl
theorem kX9_hut_c152 : Jvm.Cond.constant RX9 152 (-1000000001) ∈ wsX9_hut := List.mem_of_getElem? (i := 2) rfl
def rX9_hut (dy0 dy1 dy2 sh1 : Nat → Int32) (sh7 p0 p1 : Int32) : Int32 := if (rX0_hasHut sh7 p0) = 0 then (-1000000001 : Int32) else (if p1 = 0 then (sh1 p0.toNatClampNeg) else (if p1 = 1 then (dy0 p0.toNatClampNeg) else (if p1 = 2 then (dy1 p0.toNatClampNeg) else (if p1 = 3 then (dy2 p0.toNatClampNeg) else (-1000000002 : Int32)))))
set_option maxRecDepth 100000 in
set_option maxHeartbeats 4000000 in
theorem c_X9_hut (l : Launch) (G : GT) (AD : Nat → Nat → Nat) (rd0 : Nat → Int32) (rd1 rd2 rd3 rd4 : Int32) (dy0 dy1 dy2 dy3 dy4 : Nat → Int32) (dy5 : Int32) (pa0 : Nat → Int32) (pa1 pa2 : Int32) (im0 im1 im2 pl0 pl1 pl2 pl3 pl4 pl5 : Nat → Int32) (pl6 pl7 pl8 : Int32) (er0 er1 : Nat → Int32) (er2 : Int32) (bk0 bk1 : Nat → Int32) (bk2 dr0 : Int32) (sh0 sh1 sh2 sh3 sh4 sh5 : Nat → Int32) (sh6 sh7 sh8 : Int32) (sp0 sp1 sp2 sp3 sp4 sp5 : Nat → Int32) (sp6 sp7 sp8 p0 p1 : Int32) (h0 : 0 ≤ sh7) (h4 : sh7 ≤ 4) : Ci l G yX9_hut wsX9_hut (rmL 1) [.ref (AD 10 0), .int p0, .int p1] (wC G AD (AD 8 0) (AD 9 0) rd0 rd1 rd2 rd3 rd4 dy0 dy1 dy2 dy3 dy4 dy5 pa0 pa1 pa2 im0 im1 im2 pl0 pl1 pl2 pl3 pl4 pl5 pl6 pl7 pl8 er0 er1 er2 bk0 bk1 bk2 dr0 sh0 sh1 sh2 sh3 sh4 sh5 sh6 sh7 sh8 sp0 sp1 sp2 sp3 sp4 sp5 sp6 sp7 sp8) (rX9_hut dy0 dy1 dy2 sh1 sh7 p0 p1) (wC G AD (AD 8 0) (AD 9 0) rd0 rd1 rd2 rd3 rd4 dy0 dy1 dy2 dy3 dy4 dy5 pa0 pa1 pa2 im0 im1 im2 pl0 pl1 pl2 pl3 pl4 pl5 pl6 pl7 pl8 er0 er1 er2 bk0 bk1 bk2 dr0 sh0 sh1 sh2 sh3 sh4 sh5 sh6 sh7 sh8 sp0 sp1 sp2 sp3 sp4 sp5 sp6 sp7 sp8) := by
  refine ci_start .int (by decide) rfl rfl (Nat.le_of_ble_eq_true rfl) ?_
  intro p e s m args below meth c A X
  refine s_perm (lv2 := [(0, .ref (AD 10 0)), (1, .int p0), (2, .int p1)]) [0, 1, 2] rfl ?_
  refine s_aload_n X (pc := 0) (x := (AD 10 0)) 0 dX9_hut_0 rfl ?_
  refine s_get X (pc := 1) (v := .ref (AD 8 0)) iX9_hut_X9 0 rfl rfl 8 (by decide) kX9_hut_68 rfl rfl dX9_hut_1 ?_
  refine s_iload_n X (pc := 4) (x := p0) 1 dX9_hut_4 rfl ?_
  refine s_callVi0 X (pc := 5) (r := rX0_hasHut sh7 p0) (w := wC G AD (AD 8 0) (AD 9 0) rd0 rd1 rd2 rd3 rd4 dy0 dy1 dy2 dy3 dy4 dy5 pa0 pa1 pa2 im0 im1 im2 pl0 pl1 pl2 pl3 pl4 pl5 pl6 pl7 pl8 er0 er1 er2 bk0 bk1 bk2 dr0 sh0 sh1 sh2 sh3 sh4 sh5 sh6 sh7 sh8 sp0 sp1 sp2 sp3 sp4 sp5 sp6 sp7 sp8) (n := 1) (st := []) (As := [.int p0]) (w2 := wC G AD (AD 8 0) (AD 9 0) rd0 rd1 rd2 rd3 rd4 dy0 dy1 dy2 dy3 dy4 dy5 pa0 pa1 pa2 im0 im1 im2 pl0 pl1 pl2 pl3 pl4 pl5 pl6 pl7 pl8 er0 er1 er2 bk0 bk1 bk2 dr0 sh0 sh1 sh2 sh3 sh4 sh5 sh6 sh7 sh8 sp0 sp1 sp2 sp3 sp4 sp5 sp6 sp7 sp8) 0 (c_L8_X0_hasHut l G AD (AD 8 0) (AD 9 0) rd0 rd1 rd2 rd3 rd4 dy0 dy1 dy2 dy3 dy4 dy5 pa0 pa1 pa2 im0 im1 im2 pl0 pl1 pl2 pl3 pl4 pl5 pl6 pl7 pl8 er0 er1 er2 bk0 bk1 bk2 dr0 sh0 sh1 sh2 sh3 sh4 sh5 sh6 sh7 sh8 sp0 sp1 sp2 sp3 sp4 sp5 sp6 sp7 sp8 p0) gX9_hut_X0_hasHut rfl (by decide +kernel) ⟨Nat.le_of_ble_eq_true rfl, Nat.le_of_ble_eq_true rfl⟩ 29 rfl rfl rfl rfl (Nat.le_of_ble_eq_true rfl) (Nat.zero_le _) (Nat.zero_le _) dX9_hut_5 ?_
  refine s_if_ne X (pc := 8) (tgt := 14) dX9_hut_8 (by decide) (fun c8 => ?_) (fun c8 => ?_)
  ·
    have q8 := hasHut_i c8
    have v8 : vp_in p0 4 := vin (b := 4) rfl q8.1 (Int32.lt_of_lt_of_le q8.2 h4)
    refine s_iload_n X (pc := 14) (x := p1) 2 dX9_hut_14 rfl ?_
    by_cases c15_0 : p1 = 0
    ·
      refine s_tableIn X (pc := 15) (tgt := 44) dX9_hut_15 (by rw [c15_0]; decide) (by rw [c15_0]; decide) (by rw [c15_0]; rfl) (by decide) ?_
      refine s_aload_n X (pc := 44) (x := (AD 10 0)) 0 dX9_hut_44 rfl ?_
      refine s_get X (pc := 45) (v := .ref (AD 8 0)) iX9_hut_X9 0 rfl rfl 8 (by decide) kX9_hut_68 rfl rfl dX9_hut_45 ?_
      refine s_get X (pc := 48) (v := .ref ((AD 8) 2)) iX9_hut_X0 29 rfl rfl 1 (by decide) kX9_hut_153 rfl rfl dX9_hut_48 ?_
      refine s_iload_n X (pc := 51) (x := p0) 1 dX9_hut_51 rfl ?_
      refine s_iald X (pc := 52) (n := 4) (f := sh1) 31 rfl (by first | with_reducible assumption | exact vin (b := 4) rfl (by grind) (by grind)) dX9_hut_52 ?_
      exact s_iret X (pc := 53) (v := sh1 p0.toNatClampNeg) dX9_hut_53 (Eq.symm (show rX9_hut dy0 dy1 dy2 sh1 sh7 p0 p1 = sh1 p0.toNatClampNeg from (by unfold rX9_hut; exact ((if_neg c8).trans (if_pos c15_0))))) rfl
    by_cases c15_1 : p1 = 1
    ·
      refine s_tableIn X (pc := 15) (tgt := 54) dX9_hut_15 (by rw [c15_1]; decide) (by rw [c15_1]; decide) (by rw [c15_1]; rfl) (by decide) ?_
      refine s_aload_n X (pc := 54) (x := (AD 10 0)) 0 dX9_hut_54 rfl ?_
      refine s_get X (pc := 55) (v := .ref (AD 1 0)) iX9_hut_X9 0 rfl rfl 1 (by decide) kX9_hut_19 rfl rfl dX9_hut_55 ?_
      refine s_get X (pc := 58) (v := .ref ((AD 1) 1)) iX9_hut_X2 3 rfl rfl 0 (by decide) kX9_hut_157 rfl rfl dX9_hut_58 ?_
      refine s_iload_n X (pc := 61) (x := p0) 1 dX9_hut_61 rfl ?_
      refine s_iald X (pc := 62) (n := 4) (f := dy0) 4 rfl (by first | with_reducible assumption | exact vin (b := 4) rfl (by grind) (by grind)) dX9_hut_62 ?_
      exact s_iret X (pc := 63) (v := dy0 p0.toNatClampNeg) dX9_hut_63 (Eq.symm (show rX9_hut dy0 dy1 dy2 sh1 sh7 p0 p1 = dy0 p0.toNatClampNeg from (by unfold rX9_hut; exact ((if_neg c8).trans ((if_neg c15_0).trans (if_pos c15_1)))))) rfl
    by_cases c15_2 : p1 = 2
    ·
      refine s_tableIn X (pc := 15) (tgt := 64) dX9_hut_15 (by rw [c15_2]; decide) (by rw [c15_2]; decide) (by rw [c15_2]; rfl) (by decide) ?_
      refine s_aload_n X (pc := 64) (x := (AD 10 0)) 0 dX9_hut_64 rfl ?_
      refine s_get X (pc := 65) (v := .ref (AD 1 0)) iX9_hut_X9 0 rfl rfl 1 (by decide) kX9_hut_19 rfl rfl dX9_hut_65 ?_
      refine s_get X (pc := 68) (v := .ref ((AD 1) 2)) iX9_hut_X2 3 rfl rfl 1 (by decide) kX9_hut_160 rfl rfl dX9_hut_68 ?_
      refine s_iload_n X (pc := 71) (x := p0) 1 dX9_hut_71 rfl ?_
      refine s_iald X (pc := 72) (n := 4) (f := dy1) 5 rfl (by first | with_reducible assumption | exact vin (b := 4) rfl (by grind) (by grind)) dX9_hut_72 ?_
      exact s_iret X (pc := 73) (v := dy1 p0.toNatClampNeg) dX9_hut_73 (Eq.symm (show rX9_hut dy0 dy1 dy2 sh1 sh7 p0 p1 = dy1 p0.toNatClampNeg from (by unfold rX9_hut; exact ((if_neg c8).trans ((if_neg c15_0).trans ((if_neg c15_1).trans (if_pos c15_2))))))) rfl
    by_cases c15_3 : p1 = 3
    ·
      refine s_tableIn X (pc := 15) (tgt := 74) dX9_hut_15 (by rw [c15_3]; decide) (by rw [c15_3]; decide) (by rw [c15_3]; rfl) (by decide) ?_
      refine s_aload_n X (pc := 74) (x := (AD 10 0)) 0 dX9_hut_74 rfl ?_
      refine s_get X (pc := 75) (v := .ref (AD 1 0)) iX9_hut_X9 0 rfl rfl 1 (by decide) kX9_hut_19 rfl rfl dX9_hut_75 ?_
      refine s_get X (pc := 78) (v := .ref ((AD 1) 3)) iX9_hut_X2 3 rfl rfl 2 (by decide) kX9_hut_163 rfl rfl dX9_hut_78 ?_
      refine s_iload_n X (pc := 81) (x := p0) 1 dX9_hut_81 rfl ?_
      refine s_iald X (pc := 82) (n := 4) (f := dy2) 6 rfl (by first | with_reducible assumption | exact vin (b := 4) rfl (by grind) (by grind)) dX9_hut_82 ?_
      exact s_iret X (pc := 83) (v := dy2 p0.toNatClampNeg) dX9_hut_83 (Eq.symm (show rX9_hut dy0 dy1 dy2 sh1 sh7 p0 p1 = dy2 p0.toNatClampNeg from (by unfold rX9_hut; exact ((if_neg c8).trans ((if_neg c15_0).trans ((if_neg c15_1).trans ((if_neg c15_2).trans (if_pos c15_3)))))))) rfl
    refine s_tableOut X (pc := 15) (tgt := 84) dX9_hut_15 (sw_out3 c15_0 c15_1 c15_2 c15_3) (by decide) ?_
    refine s_ldc X (pc := 84) (v := -1000000002) kX9_hut_c79 dX9_hut_84 ?_
    exact s_iret X (pc := 86) (v := (-1000000002 : Int32)) dX9_hut_86 (Eq.symm (show rX9_hut dy0 dy1 dy2 sh1 sh7 p0 p1 = (-1000000002 : Int32) from (by unfold rX9_hut; exact ((if_neg c8).trans ((if_neg c15_0).trans ((if_neg c15_1).trans ((if_neg c15_2).trans (if_neg c15_3)))))))) rfl
  ·
    refine s_ldc X (pc := 11) (v := -1000000001) kX9_hut_c152 dX9_hut_11 ?_
    exact s_iret X (pc := 13) (v := (-1000000001 : Int32)) dX9_hut_13 (Eq.symm (show rX9_hut dy0 dy1 dy2 sh1 sh7 p0 p1 = (-1000000001 : Int32) from (by unfold rX9_hut; exact (if_pos c8)))) rfl

theorem iX9_legal_X0 : ∀ z ∈ wsX00, z ∈ wsX9_legal := fun z h => List.mem_cons_of_mem _ (List.mem_append_left _ (List.mem_append_right _ h))
theorem iX9_legal_X2 : ∀ z ∈ wsX20, z ∈ wsX9_legal := fun z h => List.mem_cons_of_mem _ (List.mem_append_right _ h)
theorem iX9_legal_X9 : ∀ z ∈ wsX90, z ∈ wsX9_legal := fun z h => List.mem_cons_of_mem _ (List.mem_append_left _ (List.mem_append_left _ (List.mem_append_right _ h)))
theorem kX9_legal_68 : Cond.fieldLink RX9 68 "BathingCourt" (TX9 8).2.1 (TX9 8).2.2.1 ∈ wsX9_legal := List.mem_of_getElem? (i := 1) rfl
theorem kX9_legal_169 : Cond.fieldLink RX9 169 "BathingCourt$Beach" (TX0 2).2.1 (TX0 2).2.2.1 ∈ wsX9_legal := List.mem_of_getElem? (i := 3) rfl
theorem kX9_legal_172 : Cond.fieldLink RX9 172 "BathingCourt$Beach" (TX0 3).2.1 (TX0 3).2.2.1 ∈ wsX9_legal := List.mem_of_getElem? (i := 4) rfl
theorem kX9_legal_175 : Cond.fieldLink RX9 175 "BathingCourt$Beach" (TX0 4).2.1 (TX0 4).2.2.1 ∈ wsX9_legal := List.mem_of_getElem? (i := 5) rfl
theorem kX9_legal_178 : Cond.fieldLink RX9 178 "BathingCourt$Beach" (TX0 5).2.1 (TX0 5).2.2.1 ∈ wsX9_legal := List.mem_of_getElem? (i := 6) rfl
theorem kX9_legal_19 : Cond.fieldLink RX9 19 "BathingCourt" (TX9 1).2.1 (TX9 1).2.2.1 ∈ wsX9_legal := List.mem_of_getElem? (i := 7) rfl
theorem kX9_legal_181 : Cond.fieldLink RX9 181 "BathingCourt$Day" (TX2 3).2.1 (TX2 3).2.2.1 ∈ wsX9_legal := List.mem_of_getElem? (i := 8) rfl
theorem kX9_legal_184 : Cond.fieldLink RX9 184 "BathingCourt$Day" (TX2 4).2.1 (TX2 4).2.2.1 ∈ wsX9_legal := List.mem_of_getElem? (i := 9) rfl
theorem kX9_legal_c79 : Jvm.Cond.constant RX9 79 (-1000000002) ∈ wsX9_legal := List.mem_of_getElem? (i := 10) rfl
theorem kX9_legal_c152 : Jvm.Cond.constant RX9 152 (-1000000001) ∈ wsX9_legal := List.mem_of_getElem? (i := 2) rfl
def rX9_legal (dy3 dy4 sh2 sh3 sh4 sh5 : Nat → Int32) (sh8 p0 p1 : Int32) : Int32 := if (rX0_hasCase sh8 p0) = 0 then (-1000000001 : Int32) else (if p1 = 0 then (sh2 p0.toNatClampNeg) else (if p1 = 1 then (sh3 p0.toNatClampNeg) else (if p1 = 2 then (sh4 p0.toNatClampNeg) else (if p1 = 3 then (sh5 p0.toNatClampNeg) else (if p1 = 4 then (dy3 p0.toNatClampNeg) else (if p1 = 5 then (dy4 p0.toNatClampNeg) else (-1000000002 : Int32)))))))
set_option maxRecDepth 100000 in
set_option maxHeartbeats 4000000 in
theorem c_X9_legal (l : Launch) (G : GT) (AD : Nat → Nat → Nat) (rd0 : Nat → Int32) (rd1 rd2 rd3 rd4 : Int32) (dy0 dy1 dy2 dy3 dy4 : Nat → Int32) (dy5 : Int32) (pa0 : Nat → Int32) (pa1 pa2 : Int32) (im0 im1 im2 pl0 pl1 pl2 pl3 pl4 pl5 : Nat → Int32) (pl6 pl7 pl8 : Int32) (er0 er1 : Nat → Int32) (er2 : Int32) (bk0 bk1 : Nat → Int32) (bk2 dr0 : Int32) (sh0 sh1 sh2 sh3 sh4 sh5 : Nat → Int32) (sh6 sh7 sh8 : Int32) (sp0 sp1 sp2 sp3 sp4 sp5 : Nat → Int32) (sp6 sp7 sp8 p0 p1 : Int32) (ca : 0 ≤ sh8) (cb : sh8 ≤ 5) : Ci l G yX9_legal wsX9_legal (rmL 1) [.ref (AD 10 0), .int p0, .int p1] (wC G AD (AD 8 0) (AD 9 0) rd0 rd1 rd2 rd3 rd4 dy0 dy1 dy2 dy3 dy4 dy5 pa0 pa1 pa2 im0 im1 im2 pl0 pl1 pl2 pl3 pl4 pl5 pl6 pl7 pl8 er0 er1 er2 bk0 bk1 bk2 dr0 sh0 sh1 sh2 sh3 sh4 sh5 sh6 sh7 sh8 sp0 sp1 sp2 sp3 sp4 sp5 sp6 sp7 sp8) (rX9_legal dy3 dy4 sh2 sh3 sh4 sh5 sh8 p0 p1) (wC G AD (AD 8 0) (AD 9 0) rd0 rd1 rd2 rd3 rd4 dy0 dy1 dy2 dy3 dy4 dy5 pa0 pa1 pa2 im0 im1 im2 pl0 pl1 pl2 pl3 pl4 pl5 pl6 pl7 pl8 er0 er1 er2 bk0 bk1 bk2 dr0 sh0 sh1 sh2 sh3 sh4 sh5 sh6 sh7 sh8 sp0 sp1 sp2 sp3 sp4 sp5 sp6 sp7 sp8) := by
  refine ci_start .int (by decide) rfl rfl (Nat.le_of_ble_eq_true rfl) ?_
  intro p e s m args below meth c A X
  refine s_perm (lv2 := [(0, .ref (AD 10 0)), (1, .int p0), (2, .int p1)]) [0, 1, 2] rfl ?_
  refine s_aload_n X (pc := 0) (x := (AD 10 0)) 0 dX9_legal_0 rfl ?_
  refine s_get X (pc := 1) (v := .ref (AD 8 0)) iX9_legal_X9 0 rfl rfl 8 (by decide) kX9_legal_68 rfl rfl dX9_legal_1 ?_
  refine s_iload_n X (pc := 4) (x := p0) 1 dX9_legal_4 rfl ?_
  refine s_callVi0 X (pc := 5) (r := rX0_hasCase sh8 p0) (w := wC G AD (AD 8 0) (AD 9 0) rd0 rd1 rd2 rd3 rd4 dy0 dy1 dy2 dy3 dy4 dy5 pa0 pa1 pa2 im0 im1 im2 pl0 pl1 pl2 pl3 pl4 pl5 pl6 pl7 pl8 er0 er1 er2 bk0 bk1 bk2 dr0 sh0 sh1 sh2 sh3 sh4 sh5 sh6 sh7 sh8 sp0 sp1 sp2 sp3 sp4 sp5 sp6 sp7 sp8) (n := 1) (st := []) (As := [.int p0]) (w2 := wC G AD (AD 8 0) (AD 9 0) rd0 rd1 rd2 rd3 rd4 dy0 dy1 dy2 dy3 dy4 dy5 pa0 pa1 pa2 im0 im1 im2 pl0 pl1 pl2 pl3 pl4 pl5 pl6 pl7 pl8 er0 er1 er2 bk0 bk1 bk2 dr0 sh0 sh1 sh2 sh3 sh4 sh5 sh6 sh7 sh8 sp0 sp1 sp2 sp3 sp4 sp5 sp6 sp7 sp8) 0 (c_L8_X0_hasCase l G AD (AD 8 0) (AD 9 0) rd0 rd1 rd2 rd3 rd4 dy0 dy1 dy2 dy3 dy4 dy5 pa0 pa1 pa2 im0 im1 im2 pl0 pl1 pl2 pl3 pl4 pl5 pl6 pl7 pl8 er0 er1 er2 bk0 bk1 bk2 dr0 sh0 sh1 sh2 sh3 sh4 sh5 sh6 sh7 sh8 sp0 sp1 sp2 sp3 sp4 sp5 sp6 sp7 sp8 p0) gX9_legal_X0_hasCase rfl (by decide +kernel) ⟨Nat.le_of_ble_eq_true rfl, Nat.le_of_ble_eq_true rfl⟩ 29 rfl rfl rfl rfl (Nat.le_of_ble_eq_true rfl) (Nat.zero_le _) (Nat.zero_le _) dX9_legal_5 ?_
  refine s_if_ne X (pc := 8) (tgt := 14) dX9_legal_8 (by decide) (fun c8 => ?_) (fun c8 => ?_)
  ·
    have q8 := hasCase_i c8
    have v8 : vp_in p0 5 := vin (b := 5) rfl q8.1 (Int32.lt_of_lt_of_le q8.2 cb)
    refine s_iload_n X (pc := 14) (x := p1) 2 dX9_legal_14 rfl ?_
    by_cases c15_0 : p1 = 0
    ·
      refine s_tableIn X (pc := 15) (tgt := 52) dX9_legal_15 (by rw [c15_0]; decide) (by rw [c15_0]; decide) (by rw [c15_0]; rfl) (by decide) ?_
      refine s_aload_n X (pc := 52) (x := (AD 10 0)) 0 dX9_legal_52 rfl ?_
      refine s_get X (pc := 53) (v := .ref (AD 8 0)) iX9_legal_X9 0 rfl rfl 8 (by decide) kX9_legal_68 rfl rfl dX9_legal_53 ?_
      refine s_get X (pc := 56) (v := .ref ((AD 8) 3)) iX9_legal_X0 29 rfl rfl 2 (by decide) kX9_legal_169 rfl rfl dX9_legal_56 ?_
      refine s_iload_n X (pc := 59) (x := p0) 1 dX9_legal_59 rfl ?_
      refine s_iald X (pc := 60) (n := 5) (f := sh2) 32 rfl (by first | with_reducible assumption | exact vin (b := 5) rfl (by grind) (by grind)) dX9_legal_60 ?_
      exact s_iret X (pc := 61) (v := sh2 p0.toNatClampNeg) dX9_legal_61 (Eq.symm (show rX9_legal dy3 dy4 sh2 sh3 sh4 sh5 sh8 p0 p1 = sh2 p0.toNatClampNeg from (by unfold rX9_legal; exact ((if_neg c8).trans (if_pos c15_0))))) rfl
    by_cases c15_1 : p1 = 1
    ·
      refine s_tableIn X (pc := 15) (tgt := 62) dX9_legal_15 (by rw [c15_1]; decide) (by rw [c15_1]; decide) (by rw [c15_1]; rfl) (by decide) ?_
      refine s_aload_n X (pc := 62) (x := (AD 10 0)) 0 dX9_legal_62 rfl ?_
      refine s_get X (pc := 63) (v := .ref (AD 8 0)) iX9_legal_X9 0 rfl rfl 8 (by decide) kX9_legal_68 rfl rfl dX9_legal_63 ?_
      refine s_get X (pc := 66) (v := .ref ((AD 8) 4)) iX9_legal_X0 29 rfl rfl 3 (by decide) kX9_legal_172 rfl rfl dX9_legal_66 ?_
      refine s_iload_n X (pc := 69) (x := p0) 1 dX9_legal_69 rfl ?_
      refine s_iald X (pc := 70) (n := 5) (f := sh3) 33 rfl (by first | with_reducible assumption | exact vin (b := 5) rfl (by grind) (by grind)) dX9_legal_70 ?_
      exact s_iret X (pc := 71) (v := sh3 p0.toNatClampNeg) dX9_legal_71 (Eq.symm (show rX9_legal dy3 dy4 sh2 sh3 sh4 sh5 sh8 p0 p1 = sh3 p0.toNatClampNeg from (by unfold rX9_legal; exact ((if_neg c8).trans ((if_neg c15_0).trans (if_pos c15_1)))))) rfl
    by_cases c15_2 : p1 = 2
    ·
      refine s_tableIn X (pc := 15) (tgt := 72) dX9_legal_15 (by rw [c15_2]; decide) (by rw [c15_2]; decide) (by rw [c15_2]; rfl) (by decide) ?_
      refine s_aload_n X (pc := 72) (x := (AD 10 0)) 0 dX9_legal_72 rfl ?_
      refine s_get X (pc := 73) (v := .ref (AD 8 0)) iX9_legal_X9 0 rfl rfl 8 (by decide) kX9_legal_68 rfl rfl dX9_legal_73 ?_
      refine s_get X (pc := 76) (v := .ref ((AD 8) 5)) iX9_legal_X0 29 rfl rfl 4 (by decide) kX9_legal_175 rfl rfl dX9_legal_76 ?_
      refine s_iload_n X (pc := 79) (x := p0) 1 dX9_legal_79 rfl ?_
      refine s_iald X (pc := 80) (n := 5) (f := sh4) 34 rfl (by first | with_reducible assumption | exact vin (b := 5) rfl (by grind) (by grind)) dX9_legal_80 ?_
      exact s_iret X (pc := 81) (v := sh4 p0.toNatClampNeg) dX9_legal_81 (Eq.symm (show rX9_legal dy3 dy4 sh2 sh3 sh4 sh5 sh8 p0 p1 = sh4 p0.toNatClampNeg from (by unfold rX9_legal; exact ((if_neg c8).trans ((if_neg c15_0).trans ((if_neg c15_1).trans (if_pos c15_2))))))) rfl
    by_cases c15_3 : p1 = 3
    ·
      refine s_tableIn X (pc := 15) (tgt := 82) dX9_legal_15 (by rw [c15_3]; decide) (by rw [c15_3]; decide) (by rw [c15_3]; rfl) (by decide) ?_
      refine s_aload_n X (pc := 82) (x := (AD 10 0)) 0 dX9_legal_82 rfl ?_
      refine s_get X (pc := 83) (v := .ref (AD 8 0)) iX9_legal_X9 0 rfl rfl 8 (by decide) kX9_legal_68 rfl rfl dX9_legal_83 ?_
      refine s_get X (pc := 86) (v := .ref ((AD 8) 6)) iX9_legal_X0 29 rfl rfl 5 (by decide) kX9_legal_178 rfl rfl dX9_legal_86 ?_
      refine s_iload_n X (pc := 89) (x := p0) 1 dX9_legal_89 rfl ?_
      refine s_iald X (pc := 90) (n := 5) (f := sh5) 35 rfl (by first | with_reducible assumption | exact vin (b := 5) rfl (by grind) (by grind)) dX9_legal_90 ?_
      exact s_iret X (pc := 91) (v := sh5 p0.toNatClampNeg) dX9_legal_91 (Eq.symm (show rX9_legal dy3 dy4 sh2 sh3 sh4 sh5 sh8 p0 p1 = sh5 p0.toNatClampNeg from (by unfold rX9_legal; exact ((if_neg c8).trans ((if_neg c15_0).trans ((if_neg c15_1).trans ((if_neg c15_2).trans (if_pos c15_3)))))))) rfl
    by_cases c15_4 : p1 = 4
    ·
      refine s_tableIn X (pc := 15) (tgt := 92) dX9_legal_15 (by rw [c15_4]; decide) (by rw [c15_4]; decide) (by rw [c15_4]; rfl) (by decide) ?_
      refine s_aload_n X (pc := 92) (x := (AD 10 0)) 0 dX9_legal_92 rfl ?_
      refine s_get X (pc := 93) (v := .ref (AD 1 0)) iX9_legal_X9 0 rfl rfl 1 (by decide) kX9_legal_19 rfl rfl dX9_legal_93 ?_
      refine s_get X (pc := 96) (v := .ref ((AD 1) 4)) iX9_legal_X2 3 rfl rfl 3 (by decide) kX9_legal_181 rfl rfl dX9_legal_96 ?_
      refine s_iload_n X (pc := 99) (x := p0) 1 dX9_legal_99 rfl ?_
      refine s_iald X (pc := 100) (n := 5) (f := dy3) 7 rfl (by first | with_reducible assumption | exact vin (b := 5) rfl (by grind) (by grind)) dX9_legal_100 ?_
      exact s_iret X (pc := 101) (v := dy3 p0.toNatClampNeg) dX9_legal_101 (Eq.symm (show rX9_legal dy3 dy4 sh2 sh3 sh4 sh5 sh8 p0 p1 = dy3 p0.toNatClampNeg from (by unfold rX9_legal; exact ((if_neg c8).trans ((if_neg c15_0).trans ((if_neg c15_1).trans ((if_neg c15_2).trans ((if_neg c15_3).trans (if_pos c15_4))))))))) rfl
    by_cases c15_5 : p1 = 5
    ·
      refine s_tableIn X (pc := 15) (tgt := 102) dX9_legal_15 (by rw [c15_5]; decide) (by rw [c15_5]; decide) (by rw [c15_5]; rfl) (by decide) ?_
      refine s_aload_n X (pc := 102) (x := (AD 10 0)) 0 dX9_legal_102 rfl ?_
      refine s_get X (pc := 103) (v := .ref (AD 1 0)) iX9_legal_X9 0 rfl rfl 1 (by decide) kX9_legal_19 rfl rfl dX9_legal_103 ?_
      refine s_get X (pc := 106) (v := .ref ((AD 1) 5)) iX9_legal_X2 3 rfl rfl 4 (by decide) kX9_legal_184 rfl rfl dX9_legal_106 ?_
      refine s_iload_n X (pc := 109) (x := p0) 1 dX9_legal_109 rfl ?_
      refine s_iald X (pc := 110) (n := 5) (f := dy4) 8 rfl (by first | with_reducible assumption | exact vin (b := 5) rfl (by grind) (by grind)) dX9_legal_110 ?_
      exact s_iret X (pc := 111) (v := dy4 p0.toNatClampNeg) dX9_legal_111 (Eq.symm (show rX9_legal dy3 dy4 sh2 sh3 sh4 sh5 sh8 p0 p1 = dy4 p0.toNatClampNeg from (by unfold rX9_legal; exact ((if_neg c8).trans ((if_neg c15_0).trans ((if_neg c15_1).trans ((if_neg c15_2).trans ((if_neg c15_3).trans ((if_neg c15_4).trans (if_pos c15_5)))))))))) rfl
    refine s_tableOut X (pc := 15) (tgt := 112) dX9_legal_15 (sw_out5 c15_0 c15_1 c15_2 c15_3 c15_4 c15_5) (by decide) ?_
    refine s_ldc X (pc := 112) (v := -1000000002) kX9_legal_c79 dX9_legal_112 ?_
    exact s_iret X (pc := 114) (v := (-1000000002 : Int32)) dX9_legal_114 (Eq.symm (show rX9_legal dy3 dy4 sh2 sh3 sh4 sh5 sh8 p0 p1 = (-1000000002 : Int32) from (by unfold rX9_legal; exact ((if_neg c8).trans ((if_neg c15_0).trans ((if_neg c15_1).trans ((if_neg c15_2).trans ((if_neg c15_3).trans ((if_neg c15_4).trans (if_neg c15_5)))))))))) rfl
  ·
    refine s_ldc X (pc := 11) (v := -1000000001) kX9_legal_c152 dX9_legal_11 ?_
    exact s_iret X (pc := 13) (v := (-1000000001 : Int32)) dX9_legal_13 (Eq.symm (show rX9_legal dy3 dy4 sh2 sh3 sh4 sh5 sh8 p0 p1 = (-1000000001 : Int32) from (by unfold rX9_legal; exact (if_pos c8)))) rfl

theorem iX9_refusalOfHours_X2 : ∀ z ∈ wsX20, z ∈ wsX9_refusalOfHours := fun z h => List.mem_cons_of_mem _ (List.mem_append_left _ (List.mem_append_right _ h))
theorem iX9_refusalOfHours_X9 : ∀ z ∈ wsX90, z ∈ wsX9_refusalOfHours := fun z h => List.mem_cons_of_mem _ (List.mem_append_left _ (List.mem_append_left _ (List.mem_append_right _ h)))
theorem kX9_refusalOfHours_68 : Cond.fieldLink RX9 68 "BathingCourt" (TX9 8).2.1 (TX9 8).2.2.1 ∈ wsX9_refusalOfHours := List.mem_of_getElem? (i := 2) rfl
theorem kX9_refusalOfHours_19 : Cond.fieldLink RX9 19 "BathingCourt" (TX9 1).2.1 (TX9 1).2.2.1 ∈ wsX9_refusalOfHours := List.mem_of_getElem? (i := 4) rfl
theorem kX9_refusalOfHours_117 : Cond.fieldLink RX9 117 "BathingCourt$Day" (TX2 5).2.1 (TX2 5).2.2.1 ∈ wsX9_refusalOfHours := List.mem_of_getElem? (i := 5) rfl
theorem kX9_refusalOfHours_c84 : Jvm.Cond.constant RX9 84 (-1000000004) ∈ wsX9_refusalOfHours := List.mem_of_getElem? (i := 6) rfl
theorem kX9_refusalOfHours_c145 : Jvm.Cond.constant RX9 145 (-1000000003) ∈ wsX9_refusalOfHours := List.mem_of_getElem? (i := 3) rfl
theorem kX9_refusalOfHours_c79 : Jvm.Cond.constant RX9 79 (-1000000002) ∈ wsX9_refusalOfHours := List.mem_of_getElem? (i := 1) rfl
def rX9_refusalOfHours (dy5 sh6 p0 : Int32) : Int32 := if (rX9_isOutside p0 (1 : Int32) (60 : Int32)) = 0 then (if (rX0_stands sh6) = 0 then (-1000000003 : Int32) else (if dy5 ≤ (9000 : Int32) then (0 : Int32) else (-1000000004 : Int32))) else (-1000000002 : Int32)
set_option maxRecDepth 100000 in
set_option maxHeartbeats 4000000 in
theorem c_X9_refusalOfHours (l : Launch) (G : GT) (AD : Nat → Nat → Nat) (rd0 : Nat → Int32) (rd1 rd2 rd3 rd4 : Int32) (dy0 dy1 dy2 dy3 dy4 : Nat → Int32) (dy5 : Int32) (pa0 : Nat → Int32) (pa1 pa2 : Int32) (im0 im1 im2 pl0 pl1 pl2 pl3 pl4 pl5 : Nat → Int32) (pl6 pl7 pl8 : Int32) (er0 er1 : Nat → Int32) (er2 : Int32) (bk0 bk1 : Nat → Int32) (bk2 dr0 : Int32) (sh0 sh1 sh2 sh3 sh4 sh5 : Nat → Int32) (sh6 sh7 sh8 : Int32) (sp0 sp1 sp2 sp3 sp4 sp5 : Nat → Int32) (sp6 sp7 sp8 p0 : Int32) : Ci l G yX9_refusalOfHours wsX9_refusalOfHours (rmL 1) [.ref (AD 10 0), .int p0] (wC G AD (AD 8 0) (AD 9 0) rd0 rd1 rd2 rd3 rd4 dy0 dy1 dy2 dy3 dy4 dy5 pa0 pa1 pa2 im0 im1 im2 pl0 pl1 pl2 pl3 pl4 pl5 pl6 pl7 pl8 er0 er1 er2 bk0 bk1 bk2 dr0 sh0 sh1 sh2 sh3 sh4 sh5 sh6 sh7 sh8 sp0 sp1 sp2 sp3 sp4 sp5 sp6 sp7 sp8) (rX9_refusalOfHours dy5 sh6 p0) (wC G AD (AD 8 0) (AD 9 0) rd0 rd1 rd2 rd3 rd4 dy0 dy1 dy2 dy3 dy4 dy5 pa0 pa1 pa2 im0 im1 im2 pl0 pl1 pl2 pl3 pl4 pl5 pl6 pl7 pl8 er0 er1 er2 bk0 bk1 bk2 dr0 sh0 sh1 sh2 sh3 sh4 sh5 sh6 sh7 sh8 sp0 sp1 sp2 sp3 sp4 sp5 sp6 sp7 sp8) := by
  refine ci_start .int (by decide) rfl rfl (Nat.le_of_ble_eq_true rfl) ?_
  intro p e s m args below meth c A X
  refine s_perm (lv2 := [(0, .ref (AD 10 0)), (1, .int p0)]) [0, 1] rfl ?_
  refine s_iload_n X (pc := 0) (x := p0) 1 dX9_refusalOfHours_0 rfl ?_
  refine s_iconst X (pc := 1) (v := 1) dX9_refusalOfHours_1 (by decide) ?_
  refine s_bipush X (pc := 2) (v := 60) dX9_refusalOfHours_2 (by decide) ?_
  refine s_callSiN X (pc := 4) (r := rX9_isOutside p0 (1 : Int32) (60 : Int32)) (n := 3) (st := []) (As := [.int p0, .int (1 : Int32), .int (60 : Int32)]) 0 (c_X9_isOutside l G p0 (1 : Int32) (60 : Int32)) gX9_refusalOfHours_X9_isOutside rfl (by decide +kernel) ⟨Nat.le_of_ble_eq_true rfl, Nat.le_of_ble_eq_true rfl⟩ rfl rfl (Nat.le_of_ble_eq_true rfl) (Nat.zero_le _) (Nat.zero_le _) dX9_refusalOfHours_4 ?_
  refine s_if_eq X (pc := 7) (tgt := 13) dX9_refusalOfHours_7 (by decide) (fun c7 => ?_) (fun c7 => ?_)
  ·
    refine s_aload_n X (pc := 13) (x := (AD 10 0)) 0 dX9_refusalOfHours_13 rfl ?_
    refine s_get X (pc := 14) (v := .ref (AD 8 0)) iX9_refusalOfHours_X9 0 rfl rfl 8 (by decide) kX9_refusalOfHours_68 rfl rfl dX9_refusalOfHours_14 ?_
    refine s_callVi0 X (pc := 17) (r := rX0_stands sh6) (w := wC G AD (AD 8 0) (AD 9 0) rd0 rd1 rd2 rd3 rd4 dy0 dy1 dy2 dy3 dy4 dy5 pa0 pa1 pa2 im0 im1 im2 pl0 pl1 pl2 pl3 pl4 pl5 pl6 pl7 pl8 er0 er1 er2 bk0 bk1 bk2 dr0 sh0 sh1 sh2 sh3 sh4 sh5 sh6 sh7 sh8 sp0 sp1 sp2 sp3 sp4 sp5 sp6 sp7 sp8) (n := 0) (st := []) (As := []) (w2 := wC G AD (AD 8 0) (AD 9 0) rd0 rd1 rd2 rd3 rd4 dy0 dy1 dy2 dy3 dy4 dy5 pa0 pa1 pa2 im0 im1 im2 pl0 pl1 pl2 pl3 pl4 pl5 pl6 pl7 pl8 er0 er1 er2 bk0 bk1 bk2 dr0 sh0 sh1 sh2 sh3 sh4 sh5 sh6 sh7 sh8 sp0 sp1 sp2 sp3 sp4 sp5 sp6 sp7 sp8) 0 (c_L8_X0_stands l G AD (AD 8 0) (AD 9 0) rd0 rd1 rd2 rd3 rd4 dy0 dy1 dy2 dy3 dy4 dy5 pa0 pa1 pa2 im0 im1 im2 pl0 pl1 pl2 pl3 pl4 pl5 pl6 pl7 pl8 er0 er1 er2 bk0 bk1 bk2 dr0 sh0 sh1 sh2 sh3 sh4 sh5 sh6 sh7 sh8 sp0 sp1 sp2 sp3 sp4 sp5 sp6 sp7 sp8) gX9_refusalOfHours_X0_stands rfl (by decide +kernel) ⟨Nat.le_of_ble_eq_true rfl, Nat.le_of_ble_eq_true rfl⟩ 29 rfl rfl rfl rfl (Nat.le_of_ble_eq_true rfl) (Nat.zero_le _) (Nat.zero_le _) dX9_refusalOfHours_17 ?_
    refine s_if_ne X (pc := 20) (tgt := 26) dX9_refusalOfHours_20 (by decide) (fun c20 => ?_) (fun c20 => ?_)
    ·
      refine s_aload_n X (pc := 26) (x := (AD 10 0)) 0 dX9_refusalOfHours_26 rfl ?_
      refine s_get X (pc := 27) (v := .ref (AD 1 0)) iX9_refusalOfHours_X9 0 rfl rfl 1 (by decide) kX9_refusalOfHours_19 rfl rfl dX9_refusalOfHours_27 ?_
      refine s_get X (pc := 30) (v := .int dy5) iX9_refusalOfHours_X2 3 rfl rfl 5 (by decide) kX9_refusalOfHours_117 rfl rfl dX9_refusalOfHours_30 ?_
      refine s_sipush X (pc := 33) (v := 9000) dX9_refusalOfHours_33 (by decide) ?_
      refine s_icmp_le X (pc := 36) (tgt := 44) dX9_refusalOfHours_36 (by decide) (fun c36 => ?_) (fun c36 => ?_)
      ·
        refine s_iconst X (pc := 44) (v := 0) dX9_refusalOfHours_44 (by decide) ?_
        exact s_iret X (pc := 45) (v := (0 : Int32)) dX9_refusalOfHours_45 (Eq.symm (show rX9_refusalOfHours dy5 sh6 p0 = (0 : Int32) from (by unfold rX9_refusalOfHours; exact ((if_pos c7).trans ((if_neg c20).trans (if_pos c36)))))) rfl
      ·
        refine s_ldc X (pc := 39) (v := -1000000004) kX9_refusalOfHours_c84 dX9_refusalOfHours_39 ?_
        refine s_goto X (pc := 41) (tgt := 45) dX9_refusalOfHours_41 (by decide) ?_
        exact s_iret X (pc := 45) (v := (-1000000004 : Int32)) dX9_refusalOfHours_45 (Eq.symm (show rX9_refusalOfHours dy5 sh6 p0 = (-1000000004 : Int32) from (by unfold rX9_refusalOfHours; exact ((if_pos c7).trans ((if_neg c20).trans (if_neg c36)))))) rfl
    ·
      refine s_ldc X (pc := 23) (v := -1000000003) kX9_refusalOfHours_c145 dX9_refusalOfHours_23 ?_
      exact s_iret X (pc := 25) (v := (-1000000003 : Int32)) dX9_refusalOfHours_25 (Eq.symm (show rX9_refusalOfHours dy5 sh6 p0 = (-1000000003 : Int32) from (by unfold rX9_refusalOfHours; exact ((if_pos c7).trans (if_pos c20))))) rfl
  ·
    refine s_ldc X (pc := 10) (v := -1000000002) kX9_refusalOfHours_c79 dX9_refusalOfHours_10 ?_
    exact s_iret X (pc := 12) (v := (-1000000002 : Int32)) dX9_refusalOfHours_12 (Eq.symm (show rX9_refusalOfHours dy5 sh6 p0 = (-1000000002 : Int32) from (by unfold rX9_refusalOfHours; exact (if_neg c7)))) rfl
