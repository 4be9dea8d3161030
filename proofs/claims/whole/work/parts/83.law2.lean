set_option maxRecDepth 100000 in
set_option maxHeartbeats 4000000 in
theorem law_dry {p : Program} {l : Launch} {e : Env} {s : State} {m : MethodId} {below : List Frame} {meth : Method} {c : Code} {G : GT} {b L : Nat} {xs : Nat → Int32} (X : Cx p room_1 s m #[Value.ref b] meth c G (fun q : Nat => s.heap.size ≤ q) 4 cL_law wsL_law RL (some .boolean)) (hX : va_X b L xs s s.heap) (hbl : b < s.heap.size) {k : Nat} (hk : k + 5 ≤ L) (hL : L ≤ 320) {AD : Nat → Nat → Nat} {ad : Nat → Nat} {rd0 : Nat → Int32} {rd1 rd2 rd3 rd4 : Int32} {dy0 dy1 dy2 dy3 dy4 : Nat → Int32} {dy5 : Int32} {pa0 : Nat → Int32} {pa1 pa2 : Int32} {im0 im1 im2 pl0 pl1 pl2 pl3 pl4 pl5 : Nat → Int32} {pl6 pl7 pl8 : Int32} {er0 er1 : Nat → Int32} {er2 : Int32} {bk0 bk1 : Nat → Int32} {bk2 dr0 : Int32} {sh0 sh1 sh2 sh3 sh4 sh5 : Nat → Int32} {sh6 sh7 sh8 : Int32} {sp0 sp1 sp2 sp3 sp4 sp5 : Nat → Int32} {sp6 sp7 sp8 a0 : Int32} {a1 : Nat → Int32} {a2 : Int32} {a3 : Nat → Int32} {a4 : Int32} {a5 a6 a7 a8 a9 : Nat → Int32} {a10 : Int32} {a11 : Nat → Int32} {a12 a13 a14 a15 a16 a17 : Int32} {a18 : Nat → Int32} {a19 : Int32} {a20 : Nat → Int32} {a21 : Int32} {a22 a23 a24 a25 : Nat → Int32} {a26 : Int32} {a27 a28 a29 a30 : Nat → Int32} {a31 : Int32} {a32 a33 : Nat → Int32} {a34 : Int32} {a35 a36 a37 a38 : Nat → Int32} (hRel : Rel rd0 rd1 rd2 rd3 rd4 dy0 dy1 dy2 dy3 dy4 dy5 pa0 pa1 pa2 im0 im1 im2 pl0 pl1 pl2 pl3 pl4 pl5 pl6 pl7 pl8 er0 er1 er2 bk0 bk1 bk2 dr0 sh0 sh1 sh2 sh3 sh4 sh5 sh6 sh7 sh8 sp0 sp1 sp2 sp3 sp4 sp5 sp6 sp7 sp8 a0 a1 a2 a3 a4 a5 a6 a7 a8 a9 a10 a11 a12 a13 a14 a15 a16 a17 a18 a19 a20 a21 a22 a23 a24 a25 a26 a27 a28 a29 a30 a31 a32 a33 a34 a35 a36 a37 a38) (K : ∀ {AD : Nat → Nat → Nat} {rd0 : Nat → Int32} {rd1 rd2 rd3 rd4 : Int32} {dy0 dy1 dy2 dy3 dy4 : Nat → Int32} {dy5 : Int32} {pa0 : Nat → Int32} {pa1 pa2 : Int32} {im0 im1 im2 pl0 pl1 pl2 pl3 pl4 pl5 : Nat → Int32} {pl6 pl7 pl8 : Int32} {er0 er1 : Nat → Int32} {er2 : Int32} {bk0 bk1 : Nat → Int32} {bk2 dr0 : Int32} {sh0 sh1 sh2 sh3 sh4 sh5 : Nat → Int32} {sh6 sh7 sh8 : Int32} {sp0 sp1 sp2 sp3 sp4 sp5 : Nat → Int32} {sp6 sp7 sp8 a0 : Int32} {a1 : Nat → Int32} {a2 : Int32} {a3 : Nat → Int32} {a4 : Int32} {a5 a6 a7 a8 a9 : Nat → Int32} {a10 : Int32} {a11 : Nat → Int32} {a12 a13 a14 a15 a16 a17 : Int32} {a18 : Nat → Int32} {a19 : Int32} {a20 : Nat → Int32} {a21 : Int32} {a22 a23 a24 a25 : Nat → Int32} {a26 : Int32} {a27 a28 a29 a30 : Nat → Int32} {a31 : Int32} {a32 a33 : Nat → Int32} {a34 : Int32} {a35 a36 a37 a38 : Nat → Int32}, Rel rd0 rd1 rd2 rd3 rd4 dy0 dy1 dy2 dy3 dy4 dy5 pa0 pa1 pa2 im0 im1 im2 pl0 pl1 pl2 pl3 pl4 pl5 pl6 pl7 pl8 er0 er1 er2 bk0 bk1 bk2 dr0 sh0 sh1 sh2 sh3 sh4 sh5 sh6 sh7 sh8 sp0 sp1 sp2 sp3 sp4 sp5 sp6 sp7 sp8 a0 a1 a2 a3 a4 a5 a6 a7 a8 a9 a10 a11 a12 a13 a14 a15 a16 a17 a18 a19 a20 a21 a22 a23 a24 a25 a26 a27 a28 a29 a30 a31 a32 a33 a34 a35 a36 a37 a38 → Sm p l e room_1 s m #[Value.ref b] below meth c G (fun q : Nat => s.heap.size ≤ q) 4 68 1925 (lw_Z below #[Value.ref b] s) 944 [(3, .int (nI k)), (2, .ref (ad 0)), (1, .ref (AD 10 0)), (0, .ref b)] [] (wC G AD (AD 8 0) (AD 9 0) rd0 rd1 rd2 rd3 rd4 dy0 dy1 dy2 dy3 dy4 dy5 pa0 pa1 pa2 im0 im1 im2 pl0 pl1 pl2 pl3 pl4 pl5 pl6 pl7 pl8 er0 er1 er2 bk0 bk1 bk2 dr0 sh0 sh1 sh2 sh3 sh4 sh5 sh6 sh7 sh8 sp0 sp1 sp2 sp3 sp4 sp5 sp6 sp7 sp8 ++ wX10 G ad a0 a1 a2 a3 a4 a5 a6 a7 a8 a9 a10 a11 a12 a13 a14 a15 a16 a17 a18 a19 a20 a21 a22 a23 a24 a25 a26 a27 a28 a29 a30 a31 a32 a33 a34 a35 a36 a37 a38)) : Sm p l e room_1 s m #[Value.ref b] below meth c G (fun q : Nat => s.heap.size ≤ q) 4 68 1925 (lw_Z below #[Value.ref b] s) 543 [(3, .int (nI k)), (2, .ref (ad 0)), (1, .ref (AD 10 0)), (0, .ref b)] [] (wC G AD (AD 8 0) (AD 9 0) rd0 rd1 rd2 rd3 rd4 dy0 dy1 dy2 dy3 dy4 dy5 pa0 pa1 pa2 im0 im1 im2 pl0 pl1 pl2 pl3 pl4 pl5 pl6 pl7 pl8 er0 er1 er2 bk0 bk1 bk2 dr0 sh0 sh1 sh2 sh3 sh4 sh5 sh6 sh7 sh8 sp0 sp1 sp2 sp3 sp4 sp5 sp6 sp7 sp8 ++ wX10 G ad a0 a1 a2 a3 a4 a5 a6 a7 a8 a9 a10 a11 a12 a13 a14 a15 a16 a17 a18 a19 a20 a21 a22 a23 a24 a25 a26 a27 a28 a29 a30 a31 a32 a33 a34 a35 a36 a37 a38) := by
  obtain ⟨hT, hF, hB, hD, hI, hP, hM, hE, hK, hS, s0⟩ := hRel
  have k_t0 : 0 ≤ a0 := hB.2.1.1
  have k_t12 : a0 ≤ 12 := hB.2.1.2
  have k_h0 : 0 ≤ a2 := hB.2.2.1.1
  have k_h4 : a2 ≤ 4 := hB.2.2.1.2
  have k_ca : 0 ≤ a4 := hB.2.2.2.1.1
  have k_cb : a4 ≤ 5 := hB.2.2.2.1.2
  have k_th : 0 < a2 → 0 < a0 := hB.2.2.2.2.1
  have k_tc : 0 < a4 → 0 < a0 := hB.2.2.2.2.2.1
  have c_t12 : sh6 ≤ 12 := by rw [hB.1.1]; exact k_t12
  have c_h0 : 0 ≤ sh7 := by rw [hB.1.2.1]; exact k_h0
  have c_h4 : sh7 ≤ 4 := by rw [hB.1.2.1]; exact k_h4
  have c_ca : 0 ≤ sh8 := by rw [hB.1.2.2]; exact k_ca
  have c_cb : sh8 ≤ 5 := by rw [hB.1.2.2]; exact k_cb
  have hc5 := clampLe (n := 5) (b := 5) rfl k_ca k_cb
  have k_n0 : 0 ≤ a9 22 := hI.1.1
  have k_n9 : a9 22 ≤ 9060 := Int32.le_iff_toInt_le.mpr hI.1.2
  have k_NI : NI 9060 a9 := DI_NI hc5 hI
  have k_u0 : 0 ≤ a26 := hP.2.1
  have k_u20 : a26 ≤ 20 := hP.2.2.1
  have c_u0 : 0 ≤ pa1 := hP.2.2.2.1
  have c_u20 : pa1 < 20 := hP.2.2.2.2.1
  have k_x0 : 0 ≤ a12 := hT.2.1
  have k_x240 : a12 ≤ 240 := hT.2.2.1
  have c_x0 : 0 ≤ rd2 := by rw [hT.1]; exact k_x0
  have c_x240 : rd2 ≤ 240 := by rw [hT.1]; exact k_x240
  have k_e0 : 0 ≤ a31 := hE.2.1
  have k_e6 : a31 ≤ 6 := hE.2.2.1
  have c_e0 : 0 ≤ er2 := by rw [hE.1]; exact k_e0
  have c_e6 : er2 ≤ 6 := by rw [hE.1]; exact k_e6
  have k_b0 : 0 ≤ a34 := hK.2.1
  have k_b15 : a34 ≤ 15 := hK.2.2.1
  have c_b0 : 0 ≤ bk2 := by rw [hK.1]; exact k_b0
  have c_b15 : bk2 ≤ 15 := by rw [hK.1]; exact k_b15
  have k_bk : ∀ j : Nat, j < a34.toNatClampNeg → vp_in (a35 j) 5 := fun j hj => by
    have z := hK.2.2.2 j hj
    rw [cl_nI _ z.2.2.1]
    exact vp_in_nI (by omega) (by decide)
  have c_bk : ∀ j : Nat, j < bk2.toNatClampNeg → vp_in (bk0 j) 5 := fun j hj => by
    rw [hK.1] at hj
    rw [(hK.2.2.2 j hj).1]
    exact k_bk j hj
  have c_hL : ∀ j : Nat, j < 5 → ¬ rX0_hasCase sh8 (nI j) = 0 → 1 ≤ sh3 j ∧ sh3 j ≤ 4 := fun j h5 hj => hL_of hB h5 hj
  have EE : rX9_dry dy5 sh0 sh6 (xs (nI k + (1 : Int32)).toNatClampNeg) = rX10_dry a0 a1 a9 (xs (nI k + (1 : Int32)).toNatClampNeg) ∧ Rel rd0 rd1 rd2 rd3 rd4 dy0 dy1 dy2 dy3 dy4 dy5 pa0 pa1 pa2 im0 im1 im2 pl0 pl1 pl2 pl3 pl4 pl5 pl6 pl7 pl8 er0 er1 er2 bk0 bk1 bk2 dr0 sh0 sh1 sh2 sh3 sh4 sh5 sh6 sh7 sh8 sp0 sp1 sp2 sp3 sp4 sp5 sp6 sp7 sp8 a0 a1 a2 a3 a4 a5 a6 a7 a8 a9 a10 a11 a12 a13 a14 a15 a16 a17 a18 a19 a20 a21 a22 a23 a24 a25 a26 a27 a28 a29 a30 a31 a32 a33 a34 a35 a36 a37 a38 := by
    exact ⟨e_dry hB hD hI, hT, hF, hB, hD, hI, hP, hM, hE, hK, hS, s0⟩
  refine s_aload_n X (pc := 543) (x := (AD 10 0)) 2 dL_law_543 rfl ?_
  refine s_aload_n X (pc := 544) (x := b) 3 dL_law_544 rfl ?_
  refine s_iload_n X (pc := 545) (x := nI k) 0 dL_law_545 rfl ?_
  refine s_iconst X (pc := 546) (v := 1) dL_law_546 (by decide) ?_
  refine s_iadd X (pc := 547) dL_law_547 ?_
  refine s_sld X (pc := 548) hX hbl (ix5 (j := 1) rfl (by decide) hk hL) dL_law_548 ?_
  refine s_callVi0 X (pc := 549) (cells := 68) (slots := 1925) (r := rX9_dry dy5 sh0 sh6 (xs (nI k + (1 : Int32)).toNatClampNeg)) (w := wC G AD (AD 8 0) (AD 9 0) rd0 rd1 rd2 rd3 rd4 dy0 dy1 dy2 dy3 dy4 dy5 pa0 pa1 pa2 im0 im1 im2 pl0 pl1 pl2 pl3 pl4 pl5 pl6 pl7 pl8 er0 er1 er2 bk0 bk1 bk2 dr0 sh0 sh1 sh2 sh3 sh4 sh5 sh6 sh7 sh8 sp0 sp1 sp2 sp3 sp4 sp5 sp6 sp7 sp8 ++ wX10 G ad a0 a1 a2 a3 a4 a5 a6 a7 a8 a9 a10 a11 a12 a13 a14 a15 a16 a17 a18 a19 a20 a21 a22 a23 a24 a25 a26 a27 a28 a29 a30 a31 a32 a33 a34 a35 a36 a37 a38) (n := 1) (st := []) (As := [.int (xs (nI k + (1 : Int32)).toNatClampNeg)]) (w2 := wC G AD (AD 8 0) (AD 9 0) rd0 rd1 rd2 rd3 rd4 dy0 dy1 dy2 dy3 dy4 dy5 pa0 pa1 pa2 im0 im1 im2 pl0 pl1 pl2 pl3 pl4 pl5 pl6 pl7 pl8 er0 er1 er2 bk0 bk1 bk2 dr0 sh0 sh1 sh2 sh3 sh4 sh5 sh6 sh7 sh8 sp0 sp1 sp2 sp3 sp4 sp5 sp6 sp7 sp8 ++ wX10 G ad a0 a1 a2 a3 a4 a5 a6 a7 a8 a9 a10 a11 a12 a13 a14 a15 a16 a17 a18 a19 a20 a21 a22 a23 a24 a25 a26 a27 a28 a29 a30 a31 a32 a33 a34 a35 a36 a37 a38) 2 (ci_fr (List.Perm.refl _) (List.Perm.refl _) [AD 10 0, AD 0 0, AD 0 1, AD 1 0, AD 1 1, AD 1 2, AD 1 3, AD 1 4, AD 1 5, AD 2 0, AD 2 1, AD 3 0, AD 3 1, AD 3 2, AD 3 3, AD 4 0, AD 4 1, AD 4 2, AD 4 3, AD 4 4, AD 4 5, AD 4 6, AD 5 0, AD 5 1, AD 5 2, AD 6 0, AD 6 1, AD 6 2, AD 7 0, AD 8 0, AD 8 1, AD 8 2, AD 8 3, AD 8 4, AD 8 5, AD 8 6, AD 9 0, AD 9 1, AD 9 2, AD 9 3, AD 9 4, AD 9 5, AD 9 6] rfl rfl (c_X9_dry l G AD rd0 rd1 rd2 rd3 rd4 dy0 dy1 dy2 dy3 dy4 dy5 pa0 pa1 pa2 im0 im1 im2 pl0 pl1 pl2 pl3 pl4 pl5 pl6 pl7 pl8 er0 er1 er2 bk0 bk1 bk2 dr0 sh0 sh1 sh2 sh3 sh4 sh5 sh6 sh7 sh8 sp0 sp1 sp2 sp3 sp4 sp5 sp6 sp7 sp8 (xs (nI k + (1 : Int32)).toNatClampNeg) (by with_reducible assumption))) gL_law_X9_dry rfl (by decide +kernel) ⟨(Nat.le_of_ble_eq_true rfl), (Nat.le_of_ble_eq_true rfl)⟩ 0 rfl rfl rfl rfl (Nat.le_of_ble_eq_true rfl) (Nat.le_of_ble_eq_true rfl) (Nat.le_of_ble_eq_true rfl) dL_law_549 ?_
  refine s_aload_n X (pc := 552) (x := (ad 0)) 1 dL_law_552 rfl ?_
  refine s_aload_n X (pc := 553) (x := b) 3 dL_law_553 rfl ?_
  refine s_iload_n X (pc := 554) (x := nI k) 0 dL_law_554 rfl ?_
  refine s_iconst X (pc := 555) (v := 1) dL_law_555 (by decide) ?_
  refine s_iadd X (pc := 556) dL_law_556 ?_
  refine s_sld X (pc := 557) hX hbl (ix5 (j := 1) rfl (by decide) hk hL) dL_law_557 ?_
  refine s_callVi0 X (pc := 558) (cells := 68) (slots := 1925) (r := rX10_dry a0 a1 a9 (xs (nI k + (1 : Int32)).toNatClampNeg)) (w := wC G AD (AD 8 0) (AD 9 0) rd0 rd1 rd2 rd3 rd4 dy0 dy1 dy2 dy3 dy4 dy5 pa0 pa1 pa2 im0 im1 im2 pl0 pl1 pl2 pl3 pl4 pl5 pl6 pl7 pl8 er0 er1 er2 bk0 bk1 bk2 dr0 sh0 sh1 sh2 sh3 sh4 sh5 sh6 sh7 sh8 sp0 sp1 sp2 sp3 sp4 sp5 sp6 sp7 sp8 ++ wX10 G ad a0 a1 a2 a3 a4 a5 a6 a7 a8 a9 a10 a11 a12 a13 a14 a15 a16 a17 a18 a19 a20 a21 a22 a23 a24 a25 a26 a27 a28 a29 a30 a31 a32 a33 a34 a35 a36 a37 a38) (n := 1) (st := [.int (rX9_dry dy5 sh0 sh6 (xs (nI k + (1 : Int32)).toNatClampNeg))]) (As := [.int (xs (nI k + (1 : Int32)).toNatClampNeg)]) (w2 := wC G AD (AD 8 0) (AD 9 0) rd0 rd1 rd2 rd3 rd4 dy0 dy1 dy2 dy3 dy4 dy5 pa0 pa1 pa2 im0 im1 im2 pl0 pl1 pl2 pl3 pl4 pl5 pl6 pl7 pl8 er0 er1 er2 bk0 bk1 bk2 dr0 sh0 sh1 sh2 sh3 sh4 sh5 sh6 sh7 sh8 sp0 sp1 sp2 sp3 sp4 sp5 sp6 sp7 sp8 ++ wX10 G ad a0 a1 a2 a3 a4 a5 a6 a7 a8 a9 a10 a11 a12 a13 a14 a15 a16 a17 a18 a19 a20 a21 a22 a23 a24 a25 a26 a27 a28 a29 a30 a31 a32 a33 a34 a35 a36 a37 a38) 2 (ci_fr List.perm_append_comm List.perm_append_comm [ad 0, ad 2, ad 4, ad 6, ad 7, ad 8, ad 9, ad 10, ad 12, ad 19, ad 21, ad 23, ad 24, ad 25, ad 26, ad 28, ad 29, ad 30, ad 31, ad 33, ad 34, ad 36, ad 37, ad 38, ad 39] rfl rfl (c_X10_dry l G ad a0 a1 a2 a3 a4 a5 a6 a7 a8 a9 a10 a11 a12 a13 a14 a15 a16 a17 a18 a19 a20 a21 a22 a23 a24 a25 a26 a27 a28 a29 a30 a31 a32 a33 a34 a35 a36 a37 a38 (xs (nI k + (1 : Int32)).toNatClampNeg) (by with_reducible assumption) (by with_reducible assumption) (by with_reducible assumption) (by with_reducible assumption))) gL_law_X10_dry rfl (by decide +kernel) ⟨(Nat.le_of_ble_eq_true rfl), (Nat.le_of_ble_eq_true rfl)⟩ 43 rfl rfl rfl rfl (Nat.le_of_ble_eq_true rfl) (Nat.le_of_ble_eq_true rfl) (Nat.le_of_ble_eq_true rfl) dL_law_558 ?_
  refine s_icmp_eq X (pc := 561) (tgt := 944) dL_law_561 (by decide) (fun cq => ?_) (fun cq => absurd EE.1 cq)
  exact K (AD := AD) EE.2

set_option maxRecDepth 100000 in
set_option maxHeartbeats 4000000 in
theorem law_stays {p : Program} {l : Launch} {e : Env} {s : State} {m : MethodId} {below : List Frame} {meth : Method} {c : Code} {G : GT} {b L : Nat} {xs : Nat → Int32} (X : Cx p room_1 s m #[Value.ref b] meth c G (fun q : Nat => s.heap.size ≤ q) 4 cL_law wsL_law RL (some .boolean)) (hX : va_X b L xs s s.heap) (hbl : b < s.heap.size) {k : Nat} (hk : k + 5 ≤ L) (hL : L ≤ 320) {AD : Nat → Nat → Nat} {ad : Nat → Nat} {rd0 : Nat → Int32} {rd1 rd2 rd3 rd4 : Int32} {dy0 dy1 dy2 dy3 dy4 : Nat → Int32} {dy5 : Int32} {pa0 : Nat → Int32} {pa1 pa2 : Int32} {im0 im1 im2 pl0 pl1 pl2 pl3 pl4 pl5 : Nat → Int32} {pl6 pl7 pl8 : Int32} {er0 er1 : Nat → Int32} {er2 : Int32} {bk0 bk1 : Nat → Int32} {bk2 dr0 : Int32} {sh0 sh1 sh2 sh3 sh4 sh5 : Nat → Int32} {sh6 sh7 sh8 : Int32} {sp0 sp1 sp2 sp3 sp4 sp5 : Nat → Int32} {sp6 sp7 sp8 a0 : Int32} {a1 : Nat → Int32} {a2 : Int32} {a3 : Nat → Int32} {a4 : Int32} {a5 a6 a7 a8 a9 : Nat → Int32} {a10 : Int32} {a11 : Nat → Int32} {a12 a13 a14 a15 a16 a17 : Int32} {a18 : Nat → Int32} {a19 : Int32} {a20 : Nat → Int32} {a21 : Int32} {a22 a23 a24 a25 : Nat → Int32} {a26 : Int32} {a27 a28 a29 a30 : Nat → Int32} {a31 : Int32} {a32 a33 : Nat → Int32} {a34 : Int32} {a35 a36 a37 a38 : Nat → Int32} (hRel : Rel rd0 rd1 rd2 rd3 rd4 dy0 dy1 dy2 dy3 dy4 dy5 pa0 pa1 pa2 im0 im1 im2 pl0 pl1 pl2 pl3 pl4 pl5 pl6 pl7 pl8 er0 er1 er2 bk0 bk1 bk2 dr0 sh0 sh1 sh2 sh3 sh4 sh5 sh6 sh7 sh8 sp0 sp1 sp2 sp3 sp4 sp5 sp6 sp7 sp8 a0 a1 a2 a3 a4 a5 a6 a7 a8 a9 a10 a11 a12 a13 a14 a15 a16 a17 a18 a19 a20 a21 a22 a23 a24 a25 a26 a27 a28 a29 a30 a31 a32 a33 a34 a35 a36 a37 a38) (K : ∀ {AD : Nat → Nat → Nat} {rd0 : Nat → Int32} {rd1 rd2 rd3 rd4 : Int32} {dy0 dy1 dy2 dy3 dy4 : Nat → Int32} {dy5 : Int32} {pa0 : Nat → Int32} {pa1 pa2 : Int32} {im0 im1 im2 pl0 pl1 pl2 pl3 pl4 pl5 : Nat → Int32} {pl6 pl7 pl8 : Int32} {er0 er1 : Nat → Int32} {er2 : Int32} {bk0 bk1 : Nat → Int32} {bk2 dr0 : Int32} {sh0 sh1 sh2 sh3 sh4 sh5 : Nat → Int32} {sh6 sh7 sh8 : Int32} {sp0 sp1 sp2 sp3 sp4 sp5 : Nat → Int32} {sp6 sp7 sp8 a0 : Int32} {a1 : Nat → Int32} {a2 : Int32} {a3 : Nat → Int32} {a4 : Int32} {a5 a6 a7 a8 a9 : Nat → Int32} {a10 : Int32} {a11 : Nat → Int32} {a12 a13 a14 a15 a16 a17 : Int32} {a18 : Nat → Int32} {a19 : Int32} {a20 : Nat → Int32} {a21 : Int32} {a22 a23 a24 a25 : Nat → Int32} {a26 : Int32} {a27 a28 a29 a30 : Nat → Int32} {a31 : Int32} {a32 a33 : Nat → Int32} {a34 : Int32} {a35 a36 a37 a38 : Nat → Int32}, Rel rd0 rd1 rd2 rd3 rd4 dy0 dy1 dy2 dy3 dy4 dy5 pa0 pa1 pa2 im0 im1 im2 pl0 pl1 pl2 pl3 pl4 pl5 pl6 pl7 pl8 er0 er1 er2 bk0 bk1 bk2 dr0 sh0 sh1 sh2 sh3 sh4 sh5 sh6 sh7 sh8 sp0 sp1 sp2 sp3 sp4 sp5 sp6 sp7 sp8 a0 a1 a2 a3 a4 a5 a6 a7 a8 a9 a10 a11 a12 a13 a14 a15 a16 a17 a18 a19 a20 a21 a22 a23 a24 a25 a26 a27 a28 a29 a30 a31 a32 a33 a34 a35 a36 a37 a38 → Sm p l e room_1 s m #[Value.ref b] below meth c G (fun q : Nat => s.heap.size ≤ q) 4 68 1925 (lw_Z below #[Value.ref b] s) 944 [(3, .int (nI k)), (2, .ref (ad 0)), (1, .ref (AD 10 0)), (0, .ref b)] [] (wC G AD (AD 8 0) (AD 9 0) rd0 rd1 rd2 rd3 rd4 dy0 dy1 dy2 dy3 dy4 dy5 pa0 pa1 pa2 im0 im1 im2 pl0 pl1 pl2 pl3 pl4 pl5 pl6 pl7 pl8 er0 er1 er2 bk0 bk1 bk2 dr0 sh0 sh1 sh2 sh3 sh4 sh5 sh6 sh7 sh8 sp0 sp1 sp2 sp3 sp4 sp5 sp6 sp7 sp8 ++ wX10 G ad a0 a1 a2 a3 a4 a5 a6 a7 a8 a9 a10 a11 a12 a13 a14 a15 a16 a17 a18 a19 a20 a21 a22 a23 a24 a25 a26 a27 a28 a29 a30 a31 a32 a33 a34 a35 a36 a37 a38)) : Sm p l e room_1 s m #[Value.ref b] below meth c G (fun q : Nat => s.heap.size ≤ q) 4 68 1925 (lw_Z below #[Value.ref b] s) 566 [(3, .int (nI k)), (2, .ref (ad 0)), (1, .ref (AD 10 0)), (0, .ref b)] [] (wC G AD (AD 8 0) (AD 9 0) rd0 rd1 rd2 rd3 rd4 dy0 dy1 dy2 dy3 dy4 dy5 pa0 pa1 pa2 im0 im1 im2 pl0 pl1 pl2 pl3 pl4 pl5 pl6 pl7 pl8 er0 er1 er2 bk0 bk1 bk2 dr0 sh0 sh1 sh2 sh3 sh4 sh5 sh6 sh7 sh8 sp0 sp1 sp2 sp3 sp4 sp5 sp6 sp7 sp8 ++ wX10 G ad a0 a1 a2 a3 a4 a5 a6 a7 a8 a9 a10 a11 a12 a13 a14 a15 a16 a17 a18 a19 a20 a21 a22 a23 a24 a25 a26 a27 a28 a29 a30 a31 a32 a33 a34 a35 a36 a37 a38) := by
  obtain ⟨hT, hF, hB, hD, hI, hP, hM, hE, hK, hS, s0⟩ := hRel
  have k_t0 : 0 ≤ a0 := hB.2.1.1
  have k_t12 : a0 ≤ 12 := hB.2.1.2
  have k_h0 : 0 ≤ a2 := hB.2.2.1.1
  have k_h4 : a2 ≤ 4 := hB.2.2.1.2
  have k_ca : 0 ≤ a4 := hB.2.2.2.1.1
  have k_cb : a4 ≤ 5 := hB.2.2.2.1.2
  have k_th : 0 < a2 → 0 < a0 := hB.2.2.2.2.1
  have k_tc : 0 < a4 → 0 < a0 := hB.2.2.2.2.2.1
  have c_t12 : sh6 ≤ 12 := by rw [hB.1.1]; exact k_t12
  have c_h0 : 0 ≤ sh7 := by rw [hB.1.2.1]; exact k_h0
  have c_h4 : sh7 ≤ 4 := by rw [hB.1.2.1]; exact k_h4
  have c_ca : 0 ≤ sh8 := by rw [hB.1.2.2]; exact k_ca
  have c_cb : sh8 ≤ 5 := by rw [hB.1.2.2]; exact k_cb
  have hc5 := clampLe (n := 5) (b := 5) rfl k_ca k_cb
  have k_n0 : 0 ≤ a9 22 := hI.1.1
  have k_n9 : a9 22 ≤ 9060 := Int32.le_iff_toInt_le.mpr hI.1.2
  have k_NI : NI 9060 a9 := DI_NI hc5 hI
  have k_u0 : 0 ≤ a26 := hP.2.1
  have k_u20 : a26 ≤ 20 := hP.2.2.1
  have c_u0 : 0 ≤ pa1 := hP.2.2.2.1
  have c_u20 : pa1 < 20 := hP.2.2.2.2.1
  have k_x0 : 0 ≤ a12 := hT.2.1
  have k_x240 : a12 ≤ 240 := hT.2.2.1
  have c_x0 : 0 ≤ rd2 := by rw [hT.1]; exact k_x0
  have c_x240 : rd2 ≤ 240 := by rw [hT.1]; exact k_x240
  have k_e0 : 0 ≤ a31 := hE.2.1
  have k_e6 : a31 ≤ 6 := hE.2.2.1
  have c_e0 : 0 ≤ er2 := by rw [hE.1]; exact k_e0
  have c_e6 : er2 ≤ 6 := by rw [hE.1]; exact k_e6
  have k_b0 : 0 ≤ a34 := hK.2.1
  have k_b15 : a34 ≤ 15 := hK.2.2.1
  have c_b0 : 0 ≤ bk2 := by rw [hK.1]; exact k_b0
  have c_b15 : bk2 ≤ 15 := by rw [hK.1]; exact k_b15
  have k_bk : ∀ j : Nat, j < a34.toNatClampNeg → vp_in (a35 j) 5 := fun j hj => by
    have z := hK.2.2.2 j hj
    rw [cl_nI _ z.2.2.1]
    exact vp_in_nI (by omega) (by decide)
  have c_bk : ∀ j : Nat, j < bk2.toNatClampNeg → vp_in (bk0 j) 5 := fun j hj => by
    rw [hK.1] at hj
    rw [(hK.2.2.2 j hj).1]
    exact k_bk j hj
  have c_hL : ∀ j : Nat, j < 5 → ¬ rX0_hasCase sh8 (nI j) = 0 → 1 ≤ sh3 j ∧ sh3 j ≤ 4 := fun j h5 hj => hL_of hB h5 hj
  have EE : rX9_stays dy5 sh0 sh6 (xs (nI k + (1 : Int32)).toNatClampNeg) (xs (nI k + (2 : Int32)).toNatClampNeg) = rX10_stays a0 a1 a9 (xs (nI k + (1 : Int32)).toNatClampNeg) (xs (nI k + (2 : Int32)).toNatClampNeg) ∧ Rel rd0 rd1 rd2 rd3 rd4 dy0 dy1 dy2 dy3 dy4 dy5 pa0 pa1 pa2 im0 im1 im2 pl0 pl1 pl2 pl3 pl4 pl5 pl6 pl7 pl8 er0 er1 er2 bk0 bk1 bk2 dr0 sh0 sh1 sh2 sh3 sh4 sh5 sh6 sh7 sh8 sp0 sp1 sp2 sp3 sp4 sp5 sp6 sp7 sp8 a0 a1 a2 a3 a4 a5 a6 a7 a8 a9 a10 a11 a12 a13 a14 a15 a16 a17 a18 a19 a20 a21 a22 a23 a24 a25 a26 a27 a28 a29 a30 a31 a32 a33 a34 a35 a36 a37 a38 := by
    exact ⟨e_stays hB hD hI, hT, hF, hB, hD, hI, hP, hM, hE, hK, hS, s0⟩
  refine s_aload_n X (pc := 566) (x := (AD 10 0)) 2 dL_law_566 rfl ?_
  refine s_aload_n X (pc := 567) (x := b) 3 dL_law_567 rfl ?_
  refine s_iload_n X (pc := 568) (x := nI k) 0 dL_law_568 rfl ?_
  refine s_iconst X (pc := 569) (v := 1) dL_law_569 (by decide) ?_
  refine s_iadd X (pc := 570) dL_law_570 ?_
  refine s_sld X (pc := 571) hX hbl (ix5 (j := 1) rfl (by decide) hk hL) dL_law_571 ?_
  refine s_aload_n X (pc := 572) (x := b) 3 dL_law_572 rfl ?_
  refine s_iload_n X (pc := 573) (x := nI k) 0 dL_law_573 rfl ?_
  refine s_iconst X (pc := 574) (v := 2) dL_law_574 (by decide) ?_
  refine s_iadd X (pc := 575) dL_law_575 ?_
  refine s_sld X (pc := 576) hX hbl (ix5 (j := 2) rfl (by decide) hk hL) dL_law_576 ?_
  refine s_callVi0 X (pc := 577) (cells := 68) (slots := 1925) (r := rX9_stays dy5 sh0 sh6 (xs (nI k + (1 : Int32)).toNatClampNeg) (xs (nI k + (2 : Int32)).toNatClampNeg)) (w := wC G AD (AD 8 0) (AD 9 0) rd0 rd1 rd2 rd3 rd4 dy0 dy1 dy2 dy3 dy4 dy5 pa0 pa1 pa2 im0 im1 im2 pl0 pl1 pl2 pl3 pl4 pl5 pl6 pl7 pl8 er0 er1 er2 bk0 bk1 bk2 dr0 sh0 sh1 sh2 sh3 sh4 sh5 sh6 sh7 sh8 sp0 sp1 sp2 sp3 sp4 sp5 sp6 sp7 sp8 ++ wX10 G ad a0 a1 a2 a3 a4 a5 a6 a7 a8 a9 a10 a11 a12 a13 a14 a15 a16 a17 a18 a19 a20 a21 a22 a23 a24 a25 a26 a27 a28 a29 a30 a31 a32 a33 a34 a35 a36 a37 a38) (n := 2) (st := []) (As := [.int (xs (nI k + (1 : Int32)).toNatClampNeg), .int (xs (nI k + (2 : Int32)).toNatClampNeg)]) (w2 := wC G AD (AD 8 0) (AD 9 0) rd0 rd1 rd2 rd3 rd4 dy0 dy1 dy2 dy3 dy4 dy5 pa0 pa1 pa2 im0 im1 im2 pl0 pl1 pl2 pl3 pl4 pl5 pl6 pl7 pl8 er0 er1 er2 bk0 bk1 bk2 dr0 sh0 sh1 sh2 sh3 sh4 sh5 sh6 sh7 sh8 sp0 sp1 sp2 sp3 sp4 sp5 sp6 sp7 sp8 ++ wX10 G ad a0 a1 a2 a3 a4 a5 a6 a7 a8 a9 a10 a11 a12 a13 a14 a15 a16 a17 a18 a19 a20 a21 a22 a23 a24 a25 a26 a27 a28 a29 a30 a31 a32 a33 a34 a35 a36 a37 a38) 2 (ci_fr (List.Perm.refl _) (List.Perm.refl _) [AD 10 0, AD 0 0, AD 0 1, AD 1 0, AD 1 1, AD 1 2, AD 1 3, AD 1 4, AD 1 5, AD 2 0, AD 2 1, AD 3 0, AD 3 1, AD 3 2, AD 3 3, AD 4 0, AD 4 1, AD 4 2, AD 4 3, AD 4 4, AD 4 5, AD 4 6, AD 5 0, AD 5 1, AD 5 2, AD 6 0, AD 6 1, AD 6 2, AD 7 0, AD 8 0, AD 8 1, AD 8 2, AD 8 3, AD 8 4, AD 8 5, AD 8 6, AD 9 0, AD 9 1, AD 9 2, AD 9 3, AD 9 4, AD 9 5, AD 9 6] rfl rfl (c_X9_stays l G AD rd0 rd1 rd2 rd3 rd4 dy0 dy1 dy2 dy3 dy4 dy5 pa0 pa1 pa2 im0 im1 im2 pl0 pl1 pl2 pl3 pl4 pl5 pl6 pl7 pl8 er0 er1 er2 bk0 bk1 bk2 dr0 sh0 sh1 sh2 sh3 sh4 sh5 sh6 sh7 sh8 sp0 sp1 sp2 sp3 sp4 sp5 sp6 sp7 sp8 (xs (nI k + (1 : Int32)).toNatClampNeg) (xs (nI k + (2 : Int32)).toNatClampNeg) (by with_reducible assumption))) gL_law_X9_stays rfl (by decide +kernel) ⟨(Nat.le_of_ble_eq_true rfl), (Nat.le_of_ble_eq_true rfl)⟩ 0 rfl rfl rfl rfl (Nat.le_of_ble_eq_true rfl) (Nat.le_of_ble_eq_true rfl) (Nat.le_of_ble_eq_true rfl) dL_law_577 ?_
  refine s_aload_n X (pc := 580) (x := (ad 0)) 1 dL_law_580 rfl ?_
  refine s_aload_n X (pc := 581) (x := b) 3 dL_law_581 rfl ?_
  refine s_iload_n X (pc := 582) (x := nI k) 0 dL_law_582 rfl ?_
  refine s_iconst X (pc := 583) (v := 1) dL_law_583 (by decide) ?_
  refine s_iadd X (pc := 584) dL_law_584 ?_
  refine s_sld X (pc := 585) hX hbl (ix5 (j := 1) rfl (by decide) hk hL) dL_law_585 ?_
  refine s_aload_n X (pc := 586) (x := b) 3 dL_law_586 rfl ?_
  refine s_iload_n X (pc := 587) (x := nI k) 0 dL_law_587 rfl ?_
  refine s_iconst X (pc := 588) (v := 2) dL_law_588 (by decide) ?_
  refine s_iadd X (pc := 589) dL_law_589 ?_
  refine s_sld X (pc := 590) hX hbl (ix5 (j := 2) rfl (by decide) hk hL) dL_law_590 ?_
  refine s_callVi0 X (pc := 591) (cells := 68) (slots := 1925) (r := rX10_stays a0 a1 a9 (xs (nI k + (1 : Int32)).toNatClampNeg) (xs (nI k + (2 : Int32)).toNatClampNeg)) (w := wC G AD (AD 8 0) (AD 9 0) rd0 rd1 rd2 rd3 rd4 dy0 dy1 dy2 dy3 dy4 dy5 pa0 pa1 pa2 im0 im1 im2 pl0 pl1 pl2 pl3 pl4 pl5 pl6 pl7 pl8 er0 er1 er2 bk0 bk1 bk2 dr0 sh0 sh1 sh2 sh3 sh4 sh5 sh6 sh7 sh8 sp0 sp1 sp2 sp3 sp4 sp5 sp6 sp7 sp8 ++ wX10 G ad a0 a1 a2 a3 a4 a5 a6 a7 a8 a9 a10 a11 a12 a13 a14 a15 a16 a17 a18 a19 a20 a21 a22 a23 a24 a25 a26 a27 a28 a29 a30 a31 a32 a33 a34 a35 a36 a37 a38) (n := 2) (st := [.int (rX9_stays dy5 sh0 sh6 (xs (nI k + (1 : Int32)).toNatClampNeg) (xs (nI k + (2 : Int32)).toNatClampNeg))]) (As := [.int (xs (nI k + (1 : Int32)).toNatClampNeg), .int (xs (nI k + (2 : Int32)).toNatClampNeg)]) (w2 := wC G AD (AD 8 0) (AD 9 0) rd0 rd1 rd2 rd3 rd4 dy0 dy1 dy2 dy3 dy4 dy5 pa0 pa1 pa2 im0 im1 im2 pl0 pl1 pl2 pl3 pl4 pl5 pl6 pl7 pl8 er0 er1 er2 bk0 bk1 bk2 dr0 sh0 sh1 sh2 sh3 sh4 sh5 sh6 sh7 sh8 sp0 sp1 sp2 sp3 sp4 sp5 sp6 sp7 sp8 ++ wX10 G ad a0 a1 a2 a3 a4 a5 a6 a7 a8 a9 a10 a11 a12 a13 a14 a15 a16 a17 a18 a19 a20 a21 a22 a23 a24 a25 a26 a27 a28 a29 a30 a31 a32 a33 a34 a35 a36 a37 a38) 2 (ci_fr List.perm_append_comm List.perm_append_comm [ad 0, ad 2, ad 4, ad 6, ad 7, ad 8, ad 9, ad 10, ad 12, ad 19, ad 21, ad 23, ad 24, ad 25, ad 26, ad 28, ad 29, ad 30, ad 31, ad 33, ad 34, ad 36, ad 37, ad 38, ad 39] rfl rfl (c_X10_stays l G ad a0 a1 a2 a3 a4 a5 a6 a7 a8 a9 a10 a11 a12 a13 a14 a15 a16 a17 a18 a19 a20 a21 a22 a23 a24 a25 a26 a27 a28 a29 a30 a31 a32 a33 a34 a35 a36 a37 a38 (xs (nI k + (1 : Int32)).toNatClampNeg) (xs (nI k + (2 : Int32)).toNatClampNeg) (by with_reducible assumption) (by with_reducible assumption) (by with_reducible assumption) (by with_reducible assumption))) gL_law_X10_stays rfl (by decide +kernel) ⟨(Nat.le_of_ble_eq_true rfl), (Nat.le_of_ble_eq_true rfl)⟩ 43 rfl rfl rfl rfl (Nat.le_of_ble_eq_true rfl) (Nat.le_of_ble_eq_true rfl) (Nat.le_of_ble_eq_true rfl) dL_law_591 ?_
  refine s_icmp_eq X (pc := 594) (tgt := 944) dL_law_594 (by decide) (fun cq => ?_) (fun cq => absurd EE.1 cq)
  exact K (AD := AD) EE.2

set_option maxRecDepth 100000 in
set_option maxHeartbeats 4000000 in
theorem law_spot {p : Program} {l : Launch} {e : Env} {s : State} {m : MethodId} {below : List Frame} {meth : Method} {c : Code} {G : GT} {b L : Nat} {xs : Nat → Int32} (X : Cx p room_1 s m #[Value.ref b] meth c G (fun q : Nat => s.heap.size ≤ q) 4 cL_law wsL_law RL (some .boolean)) (hX : va_X b L xs s s.heap) (hbl : b < s.heap.size) {k : Nat} (hk : k + 5 ≤ L) (hL : L ≤ 320) {AD : Nat → Nat → Nat} {ad : Nat → Nat} {rd0 : Nat → Int32} {rd1 rd2 rd3 rd4 : Int32} {dy0 dy1 dy2 dy3 dy4 : Nat → Int32} {dy5 : Int32} {pa0 : Nat → Int32} {pa1 pa2 : Int32} {im0 im1 im2 pl0 pl1 pl2 pl3 pl4 pl5 : Nat → Int32} {pl6 pl7 pl8 : Int32} {er0 er1 : Nat → Int32} {er2 : Int32} {bk0 bk1 : Nat → Int32} {bk2 dr0 : Int32} {sh0 sh1 sh2 sh3 sh4 sh5 : Nat → Int32} {sh6 sh7 sh8 : Int32} {sp0 sp1 sp2 sp3 sp4 sp5 : Nat → Int32} {sp6 sp7 sp8 a0 : Int32} {a1 : Nat → Int32} {a2 : Int32} {a3 : Nat → Int32} {a4 : Int32} {a5 a6 a7 a8 a9 : Nat → Int32} {a10 : Int32} {a11 : Nat → Int32} {a12 a13 a14 a15 a16 a17 : Int32} {a18 : Nat → Int32} {a19 : Int32} {a20 : Nat → Int32} {a21 : Int32} {a22 a23 a24 a25 : Nat → Int32} {a26 : Int32} {a27 a28 a29 a30 : Nat → Int32} {a31 : Int32} {a32 a33 : Nat → Int32} {a34 : Int32} {a35 a36 a37 a38 : Nat → Int32} (hRel : Rel rd0 rd1 rd2 rd3 rd4 dy0 dy1 dy2 dy3 dy4 dy5 pa0 pa1 pa2 im0 im1 im2 pl0 pl1 pl2 pl3 pl4 pl5 pl6 pl7 pl8 er0 er1 er2 bk0 bk1 bk2 dr0 sh0 sh1 sh2 sh3 sh4 sh5 sh6 sh7 sh8 sp0 sp1 sp2 sp3 sp4 sp5 sp6 sp7 sp8 a0 a1 a2 a3 a4 a5 a6 a7 a8 a9 a10 a11 a12 a13 a14 a15 a16 a17 a18 a19 a20 a21 a22 a23 a24 a25 a26 a27 a28 a29 a30 a31 a32 a33 a34 a35 a36 a37 a38) (K : ∀ {AD : Nat → Nat → Nat} {rd0 : Nat → Int32} {rd1 rd2 rd3 rd4 : Int32} {dy0 dy1 dy2 dy3 dy4 : Nat → Int32} {dy5 : Int32} {pa0 : Nat → Int32} {pa1 pa2 : Int32} {im0 im1 im2 pl0 pl1 pl2 pl3 pl4 pl5 : Nat → Int32} {pl6 pl7 pl8 : Int32} {er0 er1 : Nat → Int32} {er2 : Int32} {bk0 bk1 : Nat → Int32} {bk2 dr0 : Int32} {sh0 sh1 sh2 sh3 sh4 sh5 : Nat → Int32} {sh6 sh7 sh8 : Int32} {sp0 sp1 sp2 sp3 sp4 sp5 : Nat → Int32} {sp6 sp7 sp8 a0 : Int32} {a1 : Nat → Int32} {a2 : Int32} {a3 : Nat → Int32} {a4 : Int32} {a5 a6 a7 a8 a9 : Nat → Int32} {a10 : Int32} {a11 : Nat → Int32} {a12 a13 a14 a15 a16 a17 : Int32} {a18 : Nat → Int32} {a19 : Int32} {a20 : Nat → Int32} {a21 : Int32} {a22 a23 a24 a25 : Nat → Int32} {a26 : Int32} {a27 a28 a29 a30 : Nat → Int32} {a31 : Int32} {a32 a33 : Nat → Int32} {a34 : Int32} {a35 a36 a37 a38 : Nat → Int32}, Rel rd0 rd1 rd2 rd3 rd4 dy0 dy1 dy2 dy3 dy4 dy5 pa0 pa1 pa2 im0 im1 im2 pl0 pl1 pl2 pl3 pl4 pl5 pl6 pl7 pl8 er0 er1 er2 bk0 bk1 bk2 dr0 sh0 sh1 sh2 sh3 sh4 sh5 sh6 sh7 sh8 sp0 sp1 sp2 sp3 sp4 sp5 sp6 sp7 sp8 a0 a1 a2 a3 a4 a5 a6 a7 a8 a9 a10 a11 a12 a13 a14 a15 a16 a17 a18 a19 a20 a21 a22 a23 a24 a25 a26 a27 a28 a29 a30 a31 a32 a33 a34 a35 a36 a37 a38 → Sm p l e room_1 s m #[Value.ref b] below meth c G (fun q : Nat => s.heap.size ≤ q) 4 68 1925 (lw_Z below #[Value.ref b] s) 944 [(3, .int (nI k)), (2, .ref (ad 0)), (1, .ref (AD 10 0)), (0, .ref b)] [] (wC G AD (AD 8 0) (AD 9 0) rd0 rd1 rd2 rd3 rd4 dy0 dy1 dy2 dy3 dy4 dy5 pa0 pa1 pa2 im0 im1 im2 pl0 pl1 pl2 pl3 pl4 pl5 pl6 pl7 pl8 er0 er1 er2 bk0 bk1 bk2 dr0 sh0 sh1 sh2 sh3 sh4 sh5 sh6 sh7 sh8 sp0 sp1 sp2 sp3 sp4 sp5 sp6 sp7 sp8 ++ wX10 G ad a0 a1 a2 a3 a4 a5 a6 a7 a8 a9 a10 a11 a12 a13 a14 a15 a16 a17 a18 a19 a20 a21 a22 a23 a24 a25 a26 a27 a28 a29 a30 a31 a32 a33 a34 a35 a36 a37 a38)) : Sm p l e room_1 s m #[Value.ref b] below meth c G (fun q : Nat => s.heap.size ≤ q) 4 68 1925 (lw_Z below #[Value.ref b] s) 599 [(3, .int (nI k)), (2, .ref (ad 0)), (1, .ref (AD 10 0)), (0, .ref b)] [] (wC G AD (AD 8 0) (AD 9 0) rd0 rd1 rd2 rd3 rd4 dy0 dy1 dy2 dy3 dy4 dy5 pa0 pa1 pa2 im0 im1 im2 pl0 pl1 pl2 pl3 pl4 pl5 pl6 pl7 pl8 er0 er1 er2 bk0 bk1 bk2 dr0 sh0 sh1 sh2 sh3 sh4 sh5 sh6 sh7 sh8 sp0 sp1 sp2 sp3 sp4 sp5 sp6 sp7 sp8 ++ wX10 G ad a0 a1 a2 a3 a4 a5 a6 a7 a8 a9 a10 a11 a12 a13 a14 a15 a16 a17 a18 a19 a20 a21 a22 a23 a24 a25 a26 a27 a28 a29 a30 a31 a32 a33 a34 a35 a36 a37 a38) := by
  obtain ⟨hT, hF, hB, hD, hI, hP, hM, hE, hK, hS, s0⟩ := hRel
  have k_t0 : 0 ≤ a0 := hB.2.1.1
  have k_t12 : a0 ≤ 12 := hB.2.1.2
  have k_h0 : 0 ≤ a2 := hB.2.2.1.1
  have k_h4 : a2 ≤ 4 := hB.2.2.1.2
  have k_ca : 0 ≤ a4 := hB.2.2.2.1.1
  have k_cb : a4 ≤ 5 := hB.2.2.2.1.2
  have k_th : 0 < a2 → 0 < a0 := hB.2.2.2.2.1
  have k_tc : 0 < a4 → 0 < a0 := hB.2.2.2.2.2.1
  have c_t12 : sh6 ≤ 12 := by rw [hB.1.1]; exact k_t12
  have c_h0 : 0 ≤ sh7 := by rw [hB.1.2.1]; exact k_h0
  have c_h4 : sh7 ≤ 4 := by rw [hB.1.2.1]; exact k_h4
  have c_ca : 0 ≤ sh8 := by rw [hB.1.2.2]; exact k_ca
  have c_cb : sh8 ≤ 5 := by rw [hB.1.2.2]; exact k_cb
  have hc5 := clampLe (n := 5) (b := 5) rfl k_ca k_cb
  have k_n0 : 0 ≤ a9 22 := hI.1.1
  have k_n9 : a9 22 ≤ 9060 := Int32.le_iff_toInt_le.mpr hI.1.2
  have k_NI : NI 9060 a9 := DI_NI hc5 hI
  have k_u0 : 0 ≤ a26 := hP.2.1
  have k_u20 : a26 ≤ 20 := hP.2.2.1
  have c_u0 : 0 ≤ pa1 := hP.2.2.2.1
  have c_u20 : pa1 < 20 := hP.2.2.2.2.1
  have k_x0 : 0 ≤ a12 := hT.2.1
  have k_x240 : a12 ≤ 240 := hT.2.2.1
  have c_x0 : 0 ≤ rd2 := by rw [hT.1]; exact k_x0
  have c_x240 : rd2 ≤ 240 := by rw [hT.1]; exact k_x240
  have k_e0 : 0 ≤ a31 := hE.2.1
  have k_e6 : a31 ≤ 6 := hE.2.2.1
  have c_e0 : 0 ≤ er2 := by rw [hE.1]; exact k_e0
  have c_e6 : er2 ≤ 6 := by rw [hE.1]; exact k_e6
  have k_b0 : 0 ≤ a34 := hK.2.1
  have k_b15 : a34 ≤ 15 := hK.2.2.1
  have c_b0 : 0 ≤ bk2 := by rw [hK.1]; exact k_b0
  have c_b15 : bk2 ≤ 15 := by rw [hK.1]; exact k_b15
  have k_bk : ∀ j : Nat, j < a34.toNatClampNeg → vp_in (a35 j) 5 := fun j hj => by
    have z := hK.2.2.2 j hj
    rw [cl_nI _ z.2.2.1]
    exact vp_in_nI (by omega) (by decide)
  have c_bk : ∀ j : Nat, j < bk2.toNatClampNeg → vp_in (bk0 j) 5 := fun j hj => by
    rw [hK.1] at hj
    rw [(hK.2.2.2 j hj).1]
    exact k_bk j hj
  have c_hL : ∀ j : Nat, j < 5 → ¬ rX0_hasCase sh8 (nI j) = 0 → 1 ≤ sh3 j ∧ sh3 j ≤ 4 := fun j h5 hj => hL_of hB h5 hj
  have EE : rX9_spot dy5 sh0 sh6 (xs (nI k + (1 : Int32)).toNatClampNeg) = rX10_spot a0 a1 a9 (xs (nI k + (1 : Int32)).toNatClampNeg) ∧ Rel rd0 rd1 rd2 rd3 rd4 dy0 dy1 dy2 dy3 dy4 dy5 pa0 pa1 pa2 im0 im1 im2 pl0 pl1 pl2 pl3 pl4 pl5 pl6 pl7 pl8 er0 er1 er2 bk0 bk1 bk2 dr0 sh0 sh1 sh2 sh3 sh4 sh5 sh6 sh7 sh8 sp0 sp1 sp2 sp3 sp4 sp5 sp6 sp7 sp8 a0 a1 a2 a3 a4 a5 a6 a7 a8 a9 a10 a11 a12 a13 a14 a15 a16 a17 a18 a19 a20 a21 a22 a23 a24 a25 a26 a27 a28 a29 a30 a31 a32 a33 a34 a35 a36 a37 a38 := by
    exact ⟨e_spot hB hD hI, hT, hF, hB, hD, hI, hP, hM, hE, hK, hS, s0⟩
  refine s_aload_n X (pc := 599) (x := (AD 10 0)) 2 dL_law_599 rfl ?_
  refine s_aload_n X (pc := 600) (x := b) 3 dL_law_600 rfl ?_
  refine s_iload_n X (pc := 601) (x := nI k) 0 dL_law_601 rfl ?_
  refine s_iconst X (pc := 602) (v := 1) dL_law_602 (by decide) ?_
  refine s_iadd X (pc := 603) dL_law_603 ?_
  refine s_sld X (pc := 604) hX hbl (ix5 (j := 1) rfl (by decide) hk hL) dL_law_604 ?_
  refine s_callVi0 X (pc := 605) (cells := 68) (slots := 1925) (r := rX9_spot dy5 sh0 sh6 (xs (nI k + (1 : Int32)).toNatClampNeg)) (w := wC G AD (AD 8 0) (AD 9 0) rd0 rd1 rd2 rd3 rd4 dy0 dy1 dy2 dy3 dy4 dy5 pa0 pa1 pa2 im0 im1 im2 pl0 pl1 pl2 pl3 pl4 pl5 pl6 pl7 pl8 er0 er1 er2 bk0 bk1 bk2 dr0 sh0 sh1 sh2 sh3 sh4 sh5 sh6 sh7 sh8 sp0 sp1 sp2 sp3 sp4 sp5 sp6 sp7 sp8 ++ wX10 G ad a0 a1 a2 a3 a4 a5 a6 a7 a8 a9 a10 a11 a12 a13 a14 a15 a16 a17 a18 a19 a20 a21 a22 a23 a24 a25 a26 a27 a28 a29 a30 a31 a32 a33 a34 a35 a36 a37 a38) (n := 1) (st := []) (As := [.int (xs (nI k + (1 : Int32)).toNatClampNeg)]) (w2 := wC G AD (AD 8 0) (AD 9 0) rd0 rd1 rd2 rd3 rd4 dy0 dy1 dy2 dy3 dy4 dy5 pa0 pa1 pa2 im0 im1 im2 pl0 pl1 pl2 pl3 pl4 pl5 pl6 pl7 pl8 er0 er1 er2 bk0 bk1 bk2 dr0 sh0 sh1 sh2 sh3 sh4 sh5 sh6 sh7 sh8 sp0 sp1 sp2 sp3 sp4 sp5 sp6 sp7 sp8 ++ wX10 G ad a0 a1 a2 a3 a4 a5 a6 a7 a8 a9 a10 a11 a12 a13 a14 a15 a16 a17 a18 a19 a20 a21 a22 a23 a24 a25 a26 a27 a28 a29 a30 a31 a32 a33 a34 a35 a36 a37 a38) 2 (ci_fr (List.Perm.refl _) (List.Perm.refl _) [AD 10 0, AD 0 0, AD 0 1, AD 1 0, AD 1 1, AD 1 2, AD 1 3, AD 1 4, AD 1 5, AD 2 0, AD 2 1, AD 3 0, AD 3 1, AD 3 2, AD 3 3, AD 4 0, AD 4 1, AD 4 2, AD 4 3, AD 4 4, AD 4 5, AD 4 6, AD 5 0, AD 5 1, AD 5 2, AD 6 0, AD 6 1, AD 6 2, AD 7 0, AD 8 0, AD 8 1, AD 8 2, AD 8 3, AD 8 4, AD 8 5, AD 8 6, AD 9 0, AD 9 1, AD 9 2, AD 9 3, AD 9 4, AD 9 5, AD 9 6] rfl rfl (c_X9_spot l G AD rd0 rd1 rd2 rd3 rd4 dy0 dy1 dy2 dy3 dy4 dy5 pa0 pa1 pa2 im0 im1 im2 pl0 pl1 pl2 pl3 pl4 pl5 pl6 pl7 pl8 er0 er1 er2 bk0 bk1 bk2 dr0 sh0 sh1 sh2 sh3 sh4 sh5 sh6 sh7 sh8 sp0 sp1 sp2 sp3 sp4 sp5 sp6 sp7 sp8 (xs (nI k + (1 : Int32)).toNatClampNeg) (by with_reducible assumption))) gL_law_X9_spot rfl (by decide +kernel) ⟨(Nat.le_of_ble_eq_true rfl), (Nat.le_of_ble_eq_true rfl)⟩ 0 rfl rfl rfl rfl (Nat.le_of_ble_eq_true rfl) (Nat.le_of_ble_eq_true rfl) (Nat.le_of_ble_eq_true rfl) dL_law_605 ?_
  refine s_aload_n X (pc := 608) (x := (ad 0)) 1 dL_law_608 rfl ?_
  refine s_aload_n X (pc := 609) (x := b) 3 dL_law_609 rfl ?_
  refine s_iload_n X (pc := 610) (x := nI k) 0 dL_law_610 rfl ?_
  refine s_iconst X (pc := 611) (v := 1) dL_law_611 (by decide) ?_
  refine s_iadd X (pc := 612) dL_law_612 ?_
  refine s_sld X (pc := 613) hX hbl (ix5 (j := 1) rfl (by decide) hk hL) dL_law_613 ?_
  refine s_callVi0 X (pc := 614) (cells := 68) (slots := 1925) (r := rX10_spot a0 a1 a9 (xs (nI k + (1 : Int32)).toNatClampNeg)) (w := wC G AD (AD 8 0) (AD 9 0) rd0 rd1 rd2 rd3 rd4 dy0 dy1 dy2 dy3 dy4 dy5 pa0 pa1 pa2 im0 im1 im2 pl0 pl1 pl2 pl3 pl4 pl5 pl6 pl7 pl8 er0 er1 er2 bk0 bk1 bk2 dr0 sh0 sh1 sh2 sh3 sh4 sh5 sh6 sh7 sh8 sp0 sp1 sp2 sp3 sp4 sp5 sp6 sp7 sp8 ++ wX10 G ad a0 a1 a2 a3 a4 a5 a6 a7 a8 a9 a10 a11 a12 a13 a14 a15 a16 a17 a18 a19 a20 a21 a22 a23 a24 a25 a26 a27 a28 a29 a30 a31 a32 a33 a34 a35 a36 a37 a38) (n := 1) (st := [.int (rX9_spot dy5 sh0 sh6 (xs (nI k + (1 : Int32)).toNatClampNeg))]) (As := [.int (xs (nI k + (1 : Int32)).toNatClampNeg)]) (w2 := wC G AD (AD 8 0) (AD 9 0) rd0 rd1 rd2 rd3 rd4 dy0 dy1 dy2 dy3 dy4 dy5 pa0 pa1 pa2 im0 im1 im2 pl0 pl1 pl2 pl3 pl4 pl5 pl6 pl7 pl8 er0 er1 er2 bk0 bk1 bk2 dr0 sh0 sh1 sh2 sh3 sh4 sh5 sh6 sh7 sh8 sp0 sp1 sp2 sp3 sp4 sp5 sp6 sp7 sp8 ++ wX10 G ad a0 a1 a2 a3 a4 a5 a6 a7 a8 a9 a10 a11 a12 a13 a14 a15 a16 a17 a18 a19 a20 a21 a22 a23 a24 a25 a26 a27 a28 a29 a30 a31 a32 a33 a34 a35 a36 a37 a38) 1 (ci_fr List.perm_append_comm List.perm_append_comm [ad 0, ad 2, ad 4, ad 6, ad 7, ad 8, ad 9, ad 10, ad 12, ad 19, ad 21, ad 23, ad 24, ad 25, ad 26, ad 28, ad 29, ad 30, ad 31, ad 33, ad 34, ad 36, ad 37, ad 38, ad 39] rfl rfl (c_X10_spot l G ad a0 a1 a2 a3 a4 a5 a6 a7 a8 a9 a10 a11 a12 a13 a14 a15 a16 a17 a18 a19 a20 a21 a22 a23 a24 a25 a26 a27 a28 a29 a30 a31 a32 a33 a34 a35 a36 a37 a38 (xs (nI k + (1 : Int32)).toNatClampNeg) (by with_reducible assumption) (by with_reducible assumption) (by with_reducible assumption) (by with_reducible assumption))) gL_law_X10_spot rfl (by decide +kernel) ⟨(Nat.le_of_ble_eq_true rfl), (Nat.le_of_ble_eq_true rfl)⟩ 43 rfl rfl rfl rfl (Nat.le_of_ble_eq_true rfl) (Nat.le_of_ble_eq_true rfl) (Nat.le_of_ble_eq_true rfl) dL_law_614 ?_
  refine s_icmp_eq X (pc := 617) (tgt := 944) dL_law_617 (by decide) (fun cq => ?_) (fun cq => absurd EE.1 cq)
  exact K (AD := AD) EE.2

set_option maxRecDepth 100000 in
set_option maxHeartbeats 4000000 in
theorem law_soonest {p : Program} {l : Launch} {e : Env} {s : State} {m : MethodId} {below : List Frame} {meth : Method} {c : Code} {G : GT} {b L : Nat} {xs : Nat → Int32} (X : Cx p room_1 s m #[Value.ref b] meth c G (fun q : Nat => s.heap.size ≤ q) 4 cL_law wsL_law RL (some .boolean)) (hX : va_X b L xs s s.heap) (hbl : b < s.heap.size) {k : Nat} (hk : k + 5 ≤ L) (hL : L ≤ 320) {AD : Nat → Nat → Nat} {ad : Nat → Nat} {rd0 : Nat → Int32} {rd1 rd2 rd3 rd4 : Int32} {dy0 dy1 dy2 dy3 dy4 : Nat → Int32} {dy5 : Int32} {pa0 : Nat → Int32} {pa1 pa2 : Int32} {im0 im1 im2 pl0 pl1 pl2 pl3 pl4 pl5 : Nat → Int32} {pl6 pl7 pl8 : Int32} {er0 er1 : Nat → Int32} {er2 : Int32} {bk0 bk1 : Nat → Int32} {bk2 dr0 : Int32} {sh0 sh1 sh2 sh3 sh4 sh5 : Nat → Int32} {sh6 sh7 sh8 : Int32} {sp0 sp1 sp2 sp3 sp4 sp5 : Nat → Int32} {sp6 sp7 sp8 a0 : Int32} {a1 : Nat → Int32} {a2 : Int32} {a3 : Nat → Int32} {a4 : Int32} {a5 a6 a7 a8 a9 : Nat → Int32} {a10 : Int32} {a11 : Nat → Int32} {a12 a13 a14 a15 a16 a17 : Int32} {a18 : Nat → Int32} {a19 : Int32} {a20 : Nat → Int32} {a21 : Int32} {a22 a23 a24 a25 : Nat → Int32} {a26 : Int32} {a27 a28 a29 a30 : Nat → Int32} {a31 : Int32} {a32 a33 : Nat → Int32} {a34 : Int32} {a35 a36 a37 a38 : Nat → Int32} (hRel : Rel rd0 rd1 rd2 rd3 rd4 dy0 dy1 dy2 dy3 dy4 dy5 pa0 pa1 pa2 im0 im1 im2 pl0 pl1 pl2 pl3 pl4 pl5 pl6 pl7 pl8 er0 er1 er2 bk0 bk1 bk2 dr0 sh0 sh1 sh2 sh3 sh4 sh5 sh6 sh7 sh8 sp0 sp1 sp2 sp3 sp4 sp5 sp6 sp7 sp8 a0 a1 a2 a3 a4 a5 a6 a7 a8 a9 a10 a11 a12 a13 a14 a15 a16 a17 a18 a19 a20 a21 a22 a23 a24 a25 a26 a27 a28 a29 a30 a31 a32 a33 a34 a35 a36 a37 a38) (K : ∀ {AD : Nat → Nat → Nat} {rd0 : Nat → Int32} {rd1 rd2 rd3 rd4 : Int32} {dy0 dy1 dy2 dy3 dy4 : Nat → Int32} {dy5 : Int32} {pa0 : Nat → Int32} {pa1 pa2 : Int32} {im0 im1 im2 pl0 pl1 pl2 pl3 pl4 pl5 : Nat → Int32} {pl6 pl7 pl8 : Int32} {er0 er1 : Nat → Int32} {er2 : Int32} {bk0 bk1 : Nat → Int32} {bk2 dr0 : Int32} {sh0 sh1 sh2 sh3 sh4 sh5 : Nat → Int32} {sh6 sh7 sh8 : Int32} {sp0 sp1 sp2 sp3 sp4 sp5 : Nat → Int32} {sp6 sp7 sp8 a0 : Int32} {a1 : Nat → Int32} {a2 : Int32} {a3 : Nat → Int32} {a4 : Int32} {a5 a6 a7 a8 a9 : Nat → Int32} {a10 : Int32} {a11 : Nat → Int32} {a12 a13 a14 a15 a16 a17 : Int32} {a18 : Nat → Int32} {a19 : Int32} {a20 : Nat → Int32} {a21 : Int32} {a22 a23 a24 a25 : Nat → Int32} {a26 : Int32} {a27 a28 a29 a30 : Nat → Int32} {a31 : Int32} {a32 a33 : Nat → Int32} {a34 : Int32} {a35 a36 a37 a38 : Nat → Int32}, Rel rd0 rd1 rd2 rd3 rd4 dy0 dy1 dy2 dy3 dy4 dy5 pa0 pa1 pa2 im0 im1 im2 pl0 pl1 pl2 pl3 pl4 pl5 pl6 pl7 pl8 er0 er1 er2 bk0 bk1 bk2 dr0 sh0 sh1 sh2 sh3 sh4 sh5 sh6 sh7 sh8 sp0 sp1 sp2 sp3 sp4 sp5 sp6 sp7 sp8 a0 a1 a2 a3 a4 a5 a6 a7 a8 a9 a10 a11 a12 a13 a14 a15 a16 a17 a18 a19 a20 a21 a22 a23 a24 a25 a26 a27 a28 a29 a30 a31 a32 a33 a34 a35 a36 a37 a38 → Sm p l e room_1 s m #[Value.ref b] below meth c G (fun q : Nat => s.heap.size ≤ q) 4 68 1925 (lw_Z below #[Value.ref b] s) 944 [(3, .int (nI k)), (2, .ref (ad 0)), (1, .ref (AD 10 0)), (0, .ref b)] [] (wC G AD (AD 8 0) (AD 9 0) rd0 rd1 rd2 rd3 rd4 dy0 dy1 dy2 dy3 dy4 dy5 pa0 pa1 pa2 im0 im1 im2 pl0 pl1 pl2 pl3 pl4 pl5 pl6 pl7 pl8 er0 er1 er2 bk0 bk1 bk2 dr0 sh0 sh1 sh2 sh3 sh4 sh5 sh6 sh7 sh8 sp0 sp1 sp2 sp3 sp4 sp5 sp6 sp7 sp8 ++ wX10 G ad a0 a1 a2 a3 a4 a5 a6 a7 a8 a9 a10 a11 a12 a13 a14 a15 a16 a17 a18 a19 a20 a21 a22 a23 a24 a25 a26 a27 a28 a29 a30 a31 a32 a33 a34 a35 a36 a37 a38)) : Sm p l e room_1 s m #[Value.ref b] below meth c G (fun q : Nat => s.heap.size ≤ q) 4 68 1925 (lw_Z below #[Value.ref b] s) 622 [(3, .int (nI k)), (2, .ref (ad 0)), (1, .ref (AD 10 0)), (0, .ref b)] [] (wC G AD (AD 8 0) (AD 9 0) rd0 rd1 rd2 rd3 rd4 dy0 dy1 dy2 dy3 dy4 dy5 pa0 pa1 pa2 im0 im1 im2 pl0 pl1 pl2 pl3 pl4 pl5 pl6 pl7 pl8 er0 er1 er2 bk0 bk1 bk2 dr0 sh0 sh1 sh2 sh3 sh4 sh5 sh6 sh7 sh8 sp0 sp1 sp2 sp3 sp4 sp5 sp6 sp7 sp8 ++ wX10 G ad a0 a1 a2 a3 a4 a5 a6 a7 a8 a9 a10 a11 a12 a13 a14 a15 a16 a17 a18 a19 a20 a21 a22 a23 a24 a25 a26 a27 a28 a29 a30 a31 a32 a33 a34 a35 a36 a37 a38) := by
  obtain ⟨hT, hF, hB, hD, hI, hP, hM, hE, hK, hS, s0⟩ := hRel
  have k_t0 : 0 ≤ a0 := hB.2.1.1
  have k_t12 : a0 ≤ 12 := hB.2.1.2
  have k_h0 : 0 ≤ a2 := hB.2.2.1.1
  have k_h4 : a2 ≤ 4 := hB.2.2.1.2
  have k_ca : 0 ≤ a4 := hB.2.2.2.1.1
  have k_cb : a4 ≤ 5 := hB.2.2.2.1.2
  have k_th : 0 < a2 → 0 < a0 := hB.2.2.2.2.1
  have k_tc : 0 < a4 → 0 < a0 := hB.2.2.2.2.2.1
  have c_t12 : sh6 ≤ 12 := by rw [hB.1.1]; exact k_t12
  have c_h0 : 0 ≤ sh7 := by rw [hB.1.2.1]; exact k_h0
  have c_h4 : sh7 ≤ 4 := by rw [hB.1.2.1]; exact k_h4
  have c_ca : 0 ≤ sh8 := by rw [hB.1.2.2]; exact k_ca
  have c_cb : sh8 ≤ 5 := by rw [hB.1.2.2]; exact k_cb
  have hc5 := clampLe (n := 5) (b := 5) rfl k_ca k_cb
  have k_n0 : 0 ≤ a9 22 := hI.1.1
  have k_n9 : a9 22 ≤ 9060 := Int32.le_iff_toInt_le.mpr hI.1.2
  have k_NI : NI 9060 a9 := DI_NI hc5 hI
  have k_u0 : 0 ≤ a26 := hP.2.1
  have k_u20 : a26 ≤ 20 := hP.2.2.1
  have c_u0 : 0 ≤ pa1 := hP.2.2.2.1
  have c_u20 : pa1 < 20 := hP.2.2.2.2.1
  have k_x0 : 0 ≤ a12 := hT.2.1
  have k_x240 : a12 ≤ 240 := hT.2.2.1
  have c_x0 : 0 ≤ rd2 := by rw [hT.1]; exact k_x0
  have c_x240 : rd2 ≤ 240 := by rw [hT.1]; exact k_x240
  have k_e0 : 0 ≤ a31 := hE.2.1
  have k_e6 : a31 ≤ 6 := hE.2.2.1
  have c_e0 : 0 ≤ er2 := by rw [hE.1]; exact k_e0
  have c_e6 : er2 ≤ 6 := by rw [hE.1]; exact k_e6
  have k_b0 : 0 ≤ a34 := hK.2.1
  have k_b15 : a34 ≤ 15 := hK.2.2.1
  have c_b0 : 0 ≤ bk2 := by rw [hK.1]; exact k_b0
  have c_b15 : bk2 ≤ 15 := by rw [hK.1]; exact k_b15
  have k_bk : ∀ j : Nat, j < a34.toNatClampNeg → vp_in (a35 j) 5 := fun j hj => by
    have z := hK.2.2.2 j hj
    rw [cl_nI _ z.2.2.1]
    exact vp_in_nI (by omega) (by decide)
  have c_bk : ∀ j : Nat, j < bk2.toNatClampNeg → vp_in (bk0 j) 5 := fun j hj => by
    rw [hK.1] at hj
    rw [(hK.2.2.2 j hj).1]
    exact k_bk j hj
  have c_hL : ∀ j : Nat, j < 5 → ¬ rX0_hasCase sh8 (nI j) = 0 → 1 ≤ sh3 j ∧ sh3 j ≤ 4 := fun j h5 hj => hL_of hB h5 hj
  have EE : rX9_soonest dy0 dy2 dy5 sh0 sh1 sh2 sh4 sh6 sh7 sh8 (xs (nI k + (1 : Int32)).toNatClampNeg) (xs (nI k + (2 : Int32)).toNatClampNeg) = rX10_soonest a0 a1 a2 a3 a4 a5 a7 a9 (xs (nI k + (1 : Int32)).toNatClampNeg) (xs (nI k + (2 : Int32)).toNatClampNeg) ∧ Rel rd0 rd1 rd2 rd3 rd4 dy0 dy1 dy2 dy3 dy4 dy5 pa0 pa1 pa2 im0 im1 im2 pl0 pl1 pl2 pl3 pl4 pl5 pl6 pl7 pl8 er0 er1 er2 bk0 bk1 bk2 dr0 sh0 sh1 sh2 sh3 sh4 sh5 sh6 sh7 sh8 sp0 sp1 sp2 sp3 sp4 sp5 sp6 sp7 sp8 a0 a1 a2 a3 a4 a5 a6 a7 a8 a9 a10 a11 a12 a13 a14 a15 a16 a17 a18 a19 a20 a21 a22 a23 a24 a25 a26 a27 a28 a29 a30 a31 a32 a33 a34 a35 a36 a37 a38 := by
    exact ⟨e_soonest hB hD hI, hT, hF, hB, hD, hI, hP, hM, hE, hK, hS, s0⟩
  refine s_aload_n X (pc := 622) (x := (AD 10 0)) 2 dL_law_622 rfl ?_
  refine s_aload_n X (pc := 623) (x := b) 3 dL_law_623 rfl ?_
  refine s_iload_n X (pc := 624) (x := nI k) 0 dL_law_624 rfl ?_
  refine s_iconst X (pc := 625) (v := 1) dL_law_625 (by decide) ?_
  refine s_iadd X (pc := 626) dL_law_626 ?_
  refine s_sld X (pc := 627) hX hbl (ix5 (j := 1) rfl (by decide) hk hL) dL_law_627 ?_
  refine s_aload_n X (pc := 628) (x := b) 3 dL_law_628 rfl ?_
  refine s_iload_n X (pc := 629) (x := nI k) 0 dL_law_629 rfl ?_
  refine s_iconst X (pc := 630) (v := 2) dL_law_630 (by decide) ?_
  refine s_iadd X (pc := 631) dL_law_631 ?_
  refine s_sld X (pc := 632) hX hbl (ix5 (j := 2) rfl (by decide) hk hL) dL_law_632 ?_
  refine s_callVi0 X (pc := 633) (cells := 68) (slots := 1925) (r := rX9_soonest dy0 dy2 dy5 sh0 sh1 sh2 sh4 sh6 sh7 sh8 (xs (nI k + (1 : Int32)).toNatClampNeg) (xs (nI k + (2 : Int32)).toNatClampNeg)) (w := wC G AD (AD 8 0) (AD 9 0) rd0 rd1 rd2 rd3 rd4 dy0 dy1 dy2 dy3 dy4 dy5 pa0 pa1 pa2 im0 im1 im2 pl0 pl1 pl2 pl3 pl4 pl5 pl6 pl7 pl8 er0 er1 er2 bk0 bk1 bk2 dr0 sh0 sh1 sh2 sh3 sh4 sh5 sh6 sh7 sh8 sp0 sp1 sp2 sp3 sp4 sp5 sp6 sp7 sp8 ++ wX10 G ad a0 a1 a2 a3 a4 a5 a6 a7 a8 a9 a10 a11 a12 a13 a14 a15 a16 a17 a18 a19 a20 a21 a22 a23 a24 a25 a26 a27 a28 a29 a30 a31 a32 a33 a34 a35 a36 a37 a38) (n := 2) (st := []) (As := [.int (xs (nI k + (1 : Int32)).toNatClampNeg), .int (xs (nI k + (2 : Int32)).toNatClampNeg)]) (w2 := wC G AD (AD 8 0) (AD 9 0) rd0 rd1 rd2 rd3 rd4 dy0 dy1 dy2 dy3 dy4 dy5 pa0 pa1 pa2 im0 im1 im2 pl0 pl1 pl2 pl3 pl4 pl5 pl6 pl7 pl8 er0 er1 er2 bk0 bk1 bk2 dr0 sh0 sh1 sh2 sh3 sh4 sh5 sh6 sh7 sh8 sp0 sp1 sp2 sp3 sp4 sp5 sp6 sp7 sp8 ++ wX10 G ad a0 a1 a2 a3 a4 a5 a6 a7 a8 a9 a10 a11 a12 a13 a14 a15 a16 a17 a18 a19 a20 a21 a22 a23 a24 a25 a26 a27 a28 a29 a30 a31 a32 a33 a34 a35 a36 a37 a38) 2 (ci_fr (List.Perm.refl _) (List.Perm.refl _) [AD 10 0, AD 0 0, AD 0 1, AD 1 0, AD 1 1, AD 1 2, AD 1 3, AD 1 4, AD 1 5, AD 2 0, AD 2 1, AD 3 0, AD 3 1, AD 3 2, AD 3 3, AD 4 0, AD 4 1, AD 4 2, AD 4 3, AD 4 4, AD 4 5, AD 4 6, AD 5 0, AD 5 1, AD 5 2, AD 6 0, AD 6 1, AD 6 2, AD 7 0, AD 8 0, AD 8 1, AD 8 2, AD 8 3, AD 8 4, AD 8 5, AD 8 6, AD 9 0, AD 9 1, AD 9 2, AD 9 3, AD 9 4, AD 9 5, AD 9 6] rfl rfl (c_X9_soonest l G AD rd0 rd1 rd2 rd3 rd4 dy0 dy1 dy2 dy3 dy4 dy5 pa0 pa1 pa2 im0 im1 im2 pl0 pl1 pl2 pl3 pl4 pl5 pl6 pl7 pl8 er0 er1 er2 bk0 bk1 bk2 dr0 sh0 sh1 sh2 sh3 sh4 sh5 sh6 sh7 sh8 sp0 sp1 sp2 sp3 sp4 sp5 sp6 sp7 sp8 (xs (nI k + (1 : Int32)).toNatClampNeg) (xs (nI k + (2 : Int32)).toNatClampNeg) (by with_reducible assumption) (by with_reducible assumption) (by with_reducible assumption) (by with_reducible assumption) (by with_reducible assumption))) gL_law_X9_soonest rfl (by decide +kernel) ⟨(Nat.le_of_ble_eq_true rfl), (Nat.le_of_ble_eq_true rfl)⟩ 0 rfl rfl rfl rfl (Nat.le_of_ble_eq_true rfl) (Nat.le_of_ble_eq_true rfl) (Nat.le_of_ble_eq_true rfl) dL_law_633 ?_
  refine s_aload_n X (pc := 636) (x := (ad 0)) 1 dL_law_636 rfl ?_
  refine s_aload_n X (pc := 637) (x := b) 3 dL_law_637 rfl ?_
  refine s_iload_n X (pc := 638) (x := nI k) 0 dL_law_638 rfl ?_
  refine s_iconst X (pc := 639) (v := 1) dL_law_639 (by decide) ?_
  refine s_iadd X (pc := 640) dL_law_640 ?_
  refine s_sld X (pc := 641) hX hbl (ix5 (j := 1) rfl (by decide) hk hL) dL_law_641 ?_
  refine s_aload_n X (pc := 642) (x := b) 3 dL_law_642 rfl ?_
  refine s_iload_n X (pc := 643) (x := nI k) 0 dL_law_643 rfl ?_
  refine s_iconst X (pc := 644) (v := 2) dL_law_644 (by decide) ?_
  refine s_iadd X (pc := 645) dL_law_645 ?_
  refine s_sld X (pc := 646) hX hbl (ix5 (j := 2) rfl (by decide) hk hL) dL_law_646 ?_
  refine s_callVi0 X (pc := 647) (cells := 68) (slots := 1925) (r := rX10_soonest a0 a1 a2 a3 a4 a5 a7 a9 (xs (nI k + (1 : Int32)).toNatClampNeg) (xs (nI k + (2 : Int32)).toNatClampNeg)) (w := wC G AD (AD 8 0) (AD 9 0) rd0 rd1 rd2 rd3 rd4 dy0 dy1 dy2 dy3 dy4 dy5 pa0 pa1 pa2 im0 im1 im2 pl0 pl1 pl2 pl3 pl4 pl5 pl6 pl7 pl8 er0 er1 er2 bk0 bk1 bk2 dr0 sh0 sh1 sh2 sh3 sh4 sh5 sh6 sh7 sh8 sp0 sp1 sp2 sp3 sp4 sp5 sp6 sp7 sp8 ++ wX10 G ad a0 a1 a2 a3 a4 a5 a6 a7 a8 a9 a10 a11 a12 a13 a14 a15 a16 a17 a18 a19 a20 a21 a22 a23 a24 a25 a26 a27 a28 a29 a30 a31 a32 a33 a34 a35 a36 a37 a38) (n := 2) (st := [.int (rX9_soonest dy0 dy2 dy5 sh0 sh1 sh2 sh4 sh6 sh7 sh8 (xs (nI k + (1 : Int32)).toNatClampNeg) (xs (nI k + (2 : Int32)).toNatClampNeg))]) (As := [.int (xs (nI k + (1 : Int32)).toNatClampNeg), .int (xs (nI k + (2 : Int32)).toNatClampNeg)]) (w2 := wC G AD (AD 8 0) (AD 9 0) rd0 rd1 rd2 rd3 rd4 dy0 dy1 dy2 dy3 dy4 dy5 pa0 pa1 pa2 im0 im1 im2 pl0 pl1 pl2 pl3 pl4 pl5 pl6 pl7 pl8 er0 er1 er2 bk0 bk1 bk2 dr0 sh0 sh1 sh2 sh3 sh4 sh5 sh6 sh7 sh8 sp0 sp1 sp2 sp3 sp4 sp5 sp6 sp7 sp8 ++ wX10 G ad a0 a1 a2 a3 a4 a5 a6 a7 a8 a9 a10 a11 a12 a13 a14 a15 a16 a17 a18 a19 a20 a21 a22 a23 a24 a25 a26 a27 a28 a29 a30 a31 a32 a33 a34 a35 a36 a37 a38) 2 (ci_fr List.perm_append_comm List.perm_append_comm [ad 0, ad 2, ad 4, ad 6, ad 7, ad 8, ad 9, ad 10, ad 12, ad 19, ad 21, ad 23, ad 24, ad 25, ad 26, ad 28, ad 29, ad 30, ad 31, ad 33, ad 34, ad 36, ad 37, ad 38, ad 39] rfl rfl (c_X10_soonest l G ad a0 a1 a2 a3 a4 a5 a6 a7 a8 a9 a10 a11 a12 a13 a14 a15 a16 a17 a18 a19 a20 a21 a22 a23 a24 a25 a26 a27 a28 a29 a30 a31 a32 a33 a34 a35 a36 a37 a38 (xs (nI k + (1 : Int32)).toNatClampNeg) (xs (nI k + (2 : Int32)).toNatClampNeg) (by with_reducible assumption) (by with_reducible assumption) (by with_reducible assumption) (by with_reducible assumption) (by with_reducible assumption) (by with_reducible assumption) (by with_reducible assumption) (by with_reducible assumption) (by with_reducible assumption))) gL_law_X10_soonest rfl (by decide +kernel) ⟨(Nat.le_of_ble_eq_true rfl), (Nat.le_of_ble_eq_true rfl)⟩ 43 rfl rfl rfl rfl (Nat.le_of_ble_eq_true rfl) (Nat.le_of_ble_eq_true rfl) (Nat.le_of_ble_eq_true rfl) dL_law_647 ?_
  refine s_icmp_eq X (pc := 650) (tgt := 944) dL_law_650 (by decide) (fun cq => ?_) (fun cq => absurd EE.1 cq)
  exact K (AD := AD) EE.2

set_option maxRecDepth 100000 in
set_option maxHeartbeats 4000000 in
theorem law_offer {p : Program} {l : Launch} {e : Env} {s : State} {m : MethodId} {below : List Frame} {meth : Method} {c : Code} {G : GT} {b L : Nat} {xs : Nat → Int32} (X : Cx p room_1 s m #[Value.ref b] meth c G (fun q : Nat => s.heap.size ≤ q) 4 cL_law wsL_law RL (some .boolean)) (hX : va_X b L xs s s.heap) (hbl : b < s.heap.size) {k : Nat} (hk : k + 5 ≤ L) (hL : L ≤ 320) {AD : Nat → Nat → Nat} {ad : Nat → Nat} {rd0 : Nat → Int32} {rd1 rd2 rd3 rd4 : Int32} {dy0 dy1 dy2 dy3 dy4 : Nat → Int32} {dy5 : Int32} {pa0 : Nat → Int32} {pa1 pa2 : Int32} {im0 im1 im2 pl0 pl1 pl2 pl3 pl4 pl5 : Nat → Int32} {pl6 pl7 pl8 : Int32} {er0 er1 : Nat → Int32} {er2 : Int32} {bk0 bk1 : Nat → Int32} {bk2 dr0 : Int32} {sh0 sh1 sh2 sh3 sh4 sh5 : Nat → Int32} {sh6 sh7 sh8 : Int32} {sp0 sp1 sp2 sp3 sp4 sp5 : Nat → Int32} {sp6 sp7 sp8 a0 : Int32} {a1 : Nat → Int32} {a2 : Int32} {a3 : Nat → Int32} {a4 : Int32} {a5 a6 a7 a8 a9 : Nat → Int32} {a10 : Int32} {a11 : Nat → Int32} {a12 a13 a14 a15 a16 a17 : Int32} {a18 : Nat → Int32} {a19 : Int32} {a20 : Nat → Int32} {a21 : Int32} {a22 a23 a24 a25 : Nat → Int32} {a26 : Int32} {a27 a28 a29 a30 : Nat → Int32} {a31 : Int32} {a32 a33 : Nat → Int32} {a34 : Int32} {a35 a36 a37 a38 : Nat → Int32} (hRel : Rel rd0 rd1 rd2 rd3 rd4 dy0 dy1 dy2 dy3 dy4 dy5 pa0 pa1 pa2 im0 im1 im2 pl0 pl1 pl2 pl3 pl4 pl5 pl6 pl7 pl8 er0 er1 er2 bk0 bk1 bk2 dr0 sh0 sh1 sh2 sh3 sh4 sh5 sh6 sh7 sh8 sp0 sp1 sp2 sp3 sp4 sp5 sp6 sp7 sp8 a0 a1 a2 a3 a4 a5 a6 a7 a8 a9 a10 a11 a12 a13 a14 a15 a16 a17 a18 a19 a20 a21 a22 a23 a24 a25 a26 a27 a28 a29 a30 a31 a32 a33 a34 a35 a36 a37 a38) (K : ∀ {AD : Nat → Nat → Nat} {rd0 : Nat → Int32} {rd1 rd2 rd3 rd4 : Int32} {dy0 dy1 dy2 dy3 dy4 : Nat → Int32} {dy5 : Int32} {pa0 : Nat → Int32} {pa1 pa2 : Int32} {im0 im1 im2 pl0 pl1 pl2 pl3 pl4 pl5 : Nat → Int32} {pl6 pl7 pl8 : Int32} {er0 er1 : Nat → Int32} {er2 : Int32} {bk0 bk1 : Nat → Int32} {bk2 dr0 : Int32} {sh0 sh1 sh2 sh3 sh4 sh5 : Nat → Int32} {sh6 sh7 sh8 : Int32} {sp0 sp1 sp2 sp3 sp4 sp5 : Nat → Int32} {sp6 sp7 sp8 a0 : Int32} {a1 : Nat → Int32} {a2 : Int32} {a3 : Nat → Int32} {a4 : Int32} {a5 a6 a7 a8 a9 : Nat → Int32} {a10 : Int32} {a11 : Nat → Int32} {a12 a13 a14 a15 a16 a17 : Int32} {a18 : Nat → Int32} {a19 : Int32} {a20 : Nat → Int32} {a21 : Int32} {a22 a23 a24 a25 : Nat → Int32} {a26 : Int32} {a27 a28 a29 a30 : Nat → Int32} {a31 : Int32} {a32 a33 : Nat → Int32} {a34 : Int32} {a35 a36 a37 a38 : Nat → Int32}, Rel rd0 rd1 rd2 rd3 rd4 dy0 dy1 dy2 dy3 dy4 dy5 pa0 pa1 pa2 im0 im1 im2 pl0 pl1 pl2 pl3 pl4 pl5 pl6 pl7 pl8 er0 er1 er2 bk0 bk1 bk2 dr0 sh0 sh1 sh2 sh3 sh4 sh5 sh6 sh7 sh8 sp0 sp1 sp2 sp3 sp4 sp5 sp6 sp7 sp8 a0 a1 a2 a3 a4 a5 a6 a7 a8 a9 a10 a11 a12 a13 a14 a15 a16 a17 a18 a19 a20 a21 a22 a23 a24 a25 a26 a27 a28 a29 a30 a31 a32 a33 a34 a35 a36 a37 a38 → Sm p l e room_1 s m #[Value.ref b] below meth c G (fun q : Nat => s.heap.size ≤ q) 4 68 1925 (lw_Z below #[Value.ref b] s) 944 [(3, .int (nI k)), (2, .ref (ad 0)), (1, .ref (AD 10 0)), (0, .ref b)] [] (wC G AD (AD 8 0) (AD 9 0) rd0 rd1 rd2 rd3 rd4 dy0 dy1 dy2 dy3 dy4 dy5 pa0 pa1 pa2 im0 im1 im2 pl0 pl1 pl2 pl3 pl4 pl5 pl6 pl7 pl8 er0 er1 er2 bk0 bk1 bk2 dr0 sh0 sh1 sh2 sh3 sh4 sh5 sh6 sh7 sh8 sp0 sp1 sp2 sp3 sp4 sp5 sp6 sp7 sp8 ++ wX10 G ad a0 a1 a2 a3 a4 a5 a6 a7 a8 a9 a10 a11 a12 a13 a14 a15 a16 a17 a18 a19 a20 a21 a22 a23 a24 a25 a26 a27 a28 a29 a30 a31 a32 a33 a34 a35 a36 a37 a38)) : Sm p l e room_1 s m #[Value.ref b] below meth c G (fun q : Nat => s.heap.size ≤ q) 4 68 1925 (lw_Z below #[Value.ref b] s) 655 [(3, .int (nI k)), (2, .ref (ad 0)), (1, .ref (AD 10 0)), (0, .ref b)] [] (wC G AD (AD 8 0) (AD 9 0) rd0 rd1 rd2 rd3 rd4 dy0 dy1 dy2 dy3 dy4 dy5 pa0 pa1 pa2 im0 im1 im2 pl0 pl1 pl2 pl3 pl4 pl5 pl6 pl7 pl8 er0 er1 er2 bk0 bk1 bk2 dr0 sh0 sh1 sh2 sh3 sh4 sh5 sh6 sh7 sh8 sp0 sp1 sp2 sp3 sp4 sp5 sp6 sp7 sp8 ++ wX10 G ad a0 a1 a2 a3 a4 a5 a6 a7 a8 a9 a10 a11 a12 a13 a14 a15 a16 a17 a18 a19 a20 a21 a22 a23 a24 a25 a26 a27 a28 a29 a30 a31 a32 a33 a34 a35 a36 a37 a38) := by
  obtain ⟨hT, hF, hB, hD, hI, hP, hM, hE, hK, hS, s0⟩ := hRel
  have k_t0 : 0 ≤ a0 := hB.2.1.1
  have k_t12 : a0 ≤ 12 := hB.2.1.2
  have k_h0 : 0 ≤ a2 := hB.2.2.1.1
  have k_h4 : a2 ≤ 4 := hB.2.2.1.2
  have k_ca : 0 ≤ a4 := hB.2.2.2.1.1
  have k_cb : a4 ≤ 5 := hB.2.2.2.1.2
  have k_th : 0 < a2 → 0 < a0 := hB.2.2.2.2.1
  have k_tc : 0 < a4 → 0 < a0 := hB.2.2.2.2.2.1
  have c_t12 : sh6 ≤ 12 := by rw [hB.1.1]; exact k_t12
  have c_h0 : 0 ≤ sh7 := by rw [hB.1.2.1]; exact k_h0
  have c_h4 : sh7 ≤ 4 := by rw [hB.1.2.1]; exact k_h4
  have c_ca : 0 ≤ sh8 := by rw [hB.1.2.2]; exact k_ca
  have c_cb : sh8 ≤ 5 := by rw [hB.1.2.2]; exact k_cb
  have hc5 := clampLe (n := 5) (b := 5) rfl k_ca k_cb
  have k_n0 : 0 ≤ a9 22 := hI.1.1
  have k_n9 : a9 22 ≤ 9060 := Int32.le_iff_toInt_le.mpr hI.1.2
  have k_NI : NI 9060 a9 := DI_NI hc5 hI
  have k_u0 : 0 ≤ a26 := hP.2.1
  have k_u20 : a26 ≤ 20 := hP.2.2.1
  have c_u0 : 0 ≤ pa1 := hP.2.2.2.1
  have c_u20 : pa1 < 20 := hP.2.2.2.2.1
  have k_x0 : 0 ≤ a12 := hT.2.1
  have k_x240 : a12 ≤ 240 := hT.2.2.1
  have c_x0 : 0 ≤ rd2 := by rw [hT.1]; exact k_x0
  have c_x240 : rd2 ≤ 240 := by rw [hT.1]; exact k_x240
  have k_e0 : 0 ≤ a31 := hE.2.1
  have k_e6 : a31 ≤ 6 := hE.2.2.1
  have c_e0 : 0 ≤ er2 := by rw [hE.1]; exact k_e0
  have c_e6 : er2 ≤ 6 := by rw [hE.1]; exact k_e6
  have k_b0 : 0 ≤ a34 := hK.2.1
  have k_b15 : a34 ≤ 15 := hK.2.2.1
  have c_b0 : 0 ≤ bk2 := by rw [hK.1]; exact k_b0
  have c_b15 : bk2 ≤ 15 := by rw [hK.1]; exact k_b15
  have k_bk : ∀ j : Nat, j < a34.toNatClampNeg → vp_in (a35 j) 5 := fun j hj => by
    have z := hK.2.2.2 j hj
    rw [cl_nI _ z.2.2.1]
    exact vp_in_nI (by omega) (by decide)
  have c_bk : ∀ j : Nat, j < bk2.toNatClampNeg → vp_in (bk0 j) 5 := fun j hj => by
    rw [hK.1] at hj
    rw [(hK.2.2.2 j hj).1]
    exact k_bk j hj
  have c_hL : ∀ j : Nat, j < 5 → ¬ rX0_hasCase sh8 (nI j) = 0 → 1 ≤ sh3 j ∧ sh3 j ≤ 4 := fun j h5 hj => hL_of hB h5 hj
  have EE : rX9_offer sh5 sh8 (xs (nI k + (1 : Int32)).toNatClampNeg) (xs (nI k + (2 : Int32)).toNatClampNeg) (xs (nI k + (3 : Int32)).toNatClampNeg) (xs (nI k + (4 : Int32)).toNatClampNeg) = rX10_offer a4 a8 (xs (nI k + (1 : Int32)).toNatClampNeg) (xs (nI k + (2 : Int32)).toNatClampNeg) (xs (nI k + (3 : Int32)).toNatClampNeg) (xs (nI k + (4 : Int32)).toNatClampNeg) ∧ Rel rd0 rd1 rd2 rd3 rd4 dy0 dy1 dy2 dy3 dy4 dy5 pa0 pa1 pa2 im0 im1 im2 pl0 pl1 pl2 pl3 pl4 pl5 pl6 pl7 pl8 er0 er1 er2 bk0 bk1 bk2 dr0 sh0 sh1 sh2 sh3 sh4 sh5 sh6 sh7 sh8 sp0 sp1 sp2 sp3 sp4 sp5 sp6 sp7 sp8 a0 a1 a2 a3 a4 a5 a6 a7 a8 a9 a10 a11 a12 a13 a14 a15 a16 a17 a18 a19 a20 a21 a22 a23 a24 a25 a26 a27 a28 a29 a30 a31 a32 a33 a34 a35 a36 a37 a38 := by
    exact ⟨e_offer hB, hT, hF, hB, hD, hI, hP, hM, hE, hK, hS, s0⟩
  refine s_aload_n X (pc := 655) (x := (AD 10 0)) 2 dL_law_655 rfl ?_
  refine s_aload_n X (pc := 656) (x := b) 3 dL_law_656 rfl ?_
  refine s_iload_n X (pc := 657) (x := nI k) 0 dL_law_657 rfl ?_
  refine s_iconst X (pc := 658) (v := 1) dL_law_658 (by decide) ?_
  refine s_iadd X (pc := 659) dL_law_659 ?_
  refine s_sld X (pc := 660) hX hbl (ix5 (j := 1) rfl (by decide) hk hL) dL_law_660 ?_
  refine s_aload_n X (pc := 661) (x := b) 3 dL_law_661 rfl ?_
  refine s_iload_n X (pc := 662) (x := nI k) 0 dL_law_662 rfl ?_
  refine s_iconst X (pc := 663) (v := 2) dL_law_663 (by decide) ?_
  refine s_iadd X (pc := 664) dL_law_664 ?_
  refine s_sld X (pc := 665) hX hbl (ix5 (j := 2) rfl (by decide) hk hL) dL_law_665 ?_
  refine s_aload_n X (pc := 666) (x := b) 3 dL_law_666 rfl ?_
  refine s_iload_n X (pc := 667) (x := nI k) 0 dL_law_667 rfl ?_
  refine s_iconst X (pc := 668) (v := 3) dL_law_668 (by decide) ?_
  refine s_iadd X (pc := 669) dL_law_669 ?_
  refine s_sld X (pc := 670) hX hbl (ix5 (j := 3) rfl (by decide) hk hL) dL_law_670 ?_
  refine s_aload_n X (pc := 671) (x := b) 3 dL_law_671 rfl ?_
  refine s_iload_n X (pc := 672) (x := nI k) 0 dL_law_672 rfl ?_
  refine s_iconst X (pc := 673) (v := 4) dL_law_673 (by decide) ?_
  refine s_iadd X (pc := 674) dL_law_674 ?_
  refine s_sld X (pc := 675) hX hbl (ix5 (j := 4) rfl (by decide) hk hL) dL_law_675 ?_
  refine s_callVi0 X (pc := 676) (cells := 68) (slots := 1925) (r := rX9_offer sh5 sh8 (xs (nI k + (1 : Int32)).toNatClampNeg) (xs (nI k + (2 : Int32)).toNatClampNeg) (xs (nI k + (3 : Int32)).toNatClampNeg) (xs (nI k + (4 : Int32)).toNatClampNeg)) (w := wC G AD (AD 8 0) (AD 9 0) rd0 rd1 rd2 rd3 rd4 dy0 dy1 dy2 dy3 dy4 dy5 pa0 pa1 pa2 im0 im1 im2 pl0 pl1 pl2 pl3 pl4 pl5 pl6 pl7 pl8 er0 er1 er2 bk0 bk1 bk2 dr0 sh0 sh1 sh2 sh3 sh4 sh5 sh6 sh7 sh8 sp0 sp1 sp2 sp3 sp4 sp5 sp6 sp7 sp8 ++ wX10 G ad a0 a1 a2 a3 a4 a5 a6 a7 a8 a9 a10 a11 a12 a13 a14 a15 a16 a17 a18 a19 a20 a21 a22 a23 a24 a25 a26 a27 a28 a29 a30 a31 a32 a33 a34 a35 a36 a37 a38) (n := 4) (st := []) (As := [.int (xs (nI k + (1 : Int32)).toNatClampNeg), .int (xs (nI k + (2 : Int32)).toNatClampNeg), .int (xs (nI k + (3 : Int32)).toNatClampNeg), .int (xs (nI k + (4 : Int32)).toNatClampNeg)]) (w2 := wC G AD (AD 8 0) (AD 9 0) rd0 rd1 rd2 rd3 rd4 dy0 dy1 dy2 dy3 dy4 dy5 pa0 pa1 pa2 im0 im1 im2 pl0 pl1 pl2 pl3 pl4 pl5 pl6 pl7 pl8 er0 er1 er2 bk0 bk1 bk2 dr0 sh0 sh1 sh2 sh3 sh4 sh5 sh6 sh7 sh8 sp0 sp1 sp2 sp3 sp4 sp5 sp6 sp7 sp8 ++ wX10 G ad a0 a1 a2 a3 a4 a5 a6 a7 a8 a9 a10 a11 a12 a13 a14 a15 a16 a17 a18 a19 a20 a21 a22 a23 a24 a25 a26 a27 a28 a29 a30 a31 a32 a33 a34 a35 a36 a37 a38) 1 (ci_fr (List.Perm.refl _) (List.Perm.refl _) [AD 10 0, AD 0 0, AD 0 1, AD 1 0, AD 1 1, AD 1 2, AD 1 3, AD 1 4, AD 1 5, AD 2 0, AD 2 1, AD 3 0, AD 3 1, AD 3 2, AD 3 3, AD 4 0, AD 4 1, AD 4 2, AD 4 3, AD 4 4, AD 4 5, AD 4 6, AD 5 0, AD 5 1, AD 5 2, AD 6 0, AD 6 1, AD 6 2, AD 7 0, AD 8 0, AD 8 1, AD 8 2, AD 8 3, AD 8 4, AD 8 5, AD 8 6, AD 9 0, AD 9 1, AD 9 2, AD 9 3, AD 9 4, AD 9 5, AD 9 6] rfl rfl (c_X9_offer l G AD rd0 rd1 rd2 rd3 rd4 dy0 dy1 dy2 dy3 dy4 dy5 pa0 pa1 pa2 im0 im1 im2 pl0 pl1 pl2 pl3 pl4 pl5 pl6 pl7 pl8 er0 er1 er2 bk0 bk1 bk2 dr0 sh0 sh1 sh2 sh3 sh4 sh5 sh6 sh7 sh8 sp0 sp1 sp2 sp3 sp4 sp5 sp6 sp7 sp8 (xs (nI k + (1 : Int32)).toNatClampNeg) (xs (nI k + (2 : Int32)).toNatClampNeg) (xs (nI k + (3 : Int32)).toNatClampNeg) (xs (nI k + (4 : Int32)).toNatClampNeg) (by with_reducible assumption) (by with_reducible assumption))) gL_law_X9_offer rfl (by decide +kernel) ⟨(Nat.le_of_ble_eq_true rfl), (Nat.le_of_ble_eq_true rfl)⟩ 0 rfl rfl rfl rfl (Nat.le_of_ble_eq_true rfl) (Nat.le_of_ble_eq_true rfl) (Nat.le_of_ble_eq_true rfl) dL_law_676 ?_
  refine s_aload_n X (pc := 679) (x := (ad 0)) 1 dL_law_679 rfl ?_
  refine s_aload_n X (pc := 680) (x := b) 3 dL_law_680 rfl ?_
  refine s_iload_n X (pc := 681) (x := nI k) 0 dL_law_681 rfl ?_
  refine s_iconst X (pc := 682) (v := 1) dL_law_682 (by decide) ?_
  refine s_iadd X (pc := 683) dL_law_683 ?_
  refine s_sld X (pc := 684) hX hbl (ix5 (j := 1) rfl (by decide) hk hL) dL_law_684 ?_
  refine s_aload_n X (pc := 685) (x := b) 3 dL_law_685 rfl ?_
  refine s_iload_n X (pc := 686) (x := nI k) 0 dL_law_686 rfl ?_
  refine s_iconst X (pc := 687) (v := 2) dL_law_687 (by decide) ?_
  refine s_iadd X (pc := 688) dL_law_688 ?_
  refine s_sld X (pc := 689) hX hbl (ix5 (j := 2) rfl (by decide) hk hL) dL_law_689 ?_
  refine s_aload_n X (pc := 690) (x := b) 3 dL_law_690 rfl ?_
  refine s_iload_n X (pc := 691) (x := nI k) 0 dL_law_691 rfl ?_
  refine s_iconst X (pc := 692) (v := 3) dL_law_692 (by decide) ?_
  refine s_iadd X (pc := 693) dL_law_693 ?_
  refine s_sld X (pc := 694) hX hbl (ix5 (j := 3) rfl (by decide) hk hL) dL_law_694 ?_
  refine s_aload_n X (pc := 695) (x := b) 3 dL_law_695 rfl ?_
  refine s_iload_n X (pc := 696) (x := nI k) 0 dL_law_696 rfl ?_
  refine s_iconst X (pc := 697) (v := 4) dL_law_697 (by decide) ?_
  refine s_iadd X (pc := 698) dL_law_698 ?_
  refine s_sld X (pc := 699) hX hbl (ix5 (j := 4) rfl (by decide) hk hL) dL_law_699 ?_
  refine s_callVi0 X (pc := 700) (cells := 68) (slots := 1925) (r := rX10_offer a4 a8 (xs (nI k + (1 : Int32)).toNatClampNeg) (xs (nI k + (2 : Int32)).toNatClampNeg) (xs (nI k + (3 : Int32)).toNatClampNeg) (xs (nI k + (4 : Int32)).toNatClampNeg)) (w := wC G AD (AD 8 0) (AD 9 0) rd0 rd1 rd2 rd3 rd4 dy0 dy1 dy2 dy3 dy4 dy5 pa0 pa1 pa2 im0 im1 im2 pl0 pl1 pl2 pl3 pl4 pl5 pl6 pl7 pl8 er0 er1 er2 bk0 bk1 bk2 dr0 sh0 sh1 sh2 sh3 sh4 sh5 sh6 sh7 sh8 sp0 sp1 sp2 sp3 sp4 sp5 sp6 sp7 sp8 ++ wX10 G ad a0 a1 a2 a3 a4 a5 a6 a7 a8 a9 a10 a11 a12 a13 a14 a15 a16 a17 a18 a19 a20 a21 a22 a23 a24 a25 a26 a27 a28 a29 a30 a31 a32 a33 a34 a35 a36 a37 a38) (n := 4) (st := [.int (rX9_offer sh5 sh8 (xs (nI k + (1 : Int32)).toNatClampNeg) (xs (nI k + (2 : Int32)).toNatClampNeg) (xs (nI k + (3 : Int32)).toNatClampNeg) (xs (nI k + (4 : Int32)).toNatClampNeg))]) (As := [.int (xs (nI k + (1 : Int32)).toNatClampNeg), .int (xs (nI k + (2 : Int32)).toNatClampNeg), .int (xs (nI k + (3 : Int32)).toNatClampNeg), .int (xs (nI k + (4 : Int32)).toNatClampNeg)]) (w2 := wC G AD (AD 8 0) (AD 9 0) rd0 rd1 rd2 rd3 rd4 dy0 dy1 dy2 dy3 dy4 dy5 pa0 pa1 pa2 im0 im1 im2 pl0 pl1 pl2 pl3 pl4 pl5 pl6 pl7 pl8 er0 er1 er2 bk0 bk1 bk2 dr0 sh0 sh1 sh2 sh3 sh4 sh5 sh6 sh7 sh8 sp0 sp1 sp2 sp3 sp4 sp5 sp6 sp7 sp8 ++ wX10 G ad a0 a1 a2 a3 a4 a5 a6 a7 a8 a9 a10 a11 a12 a13 a14 a15 a16 a17 a18 a19 a20 a21 a22 a23 a24 a25 a26 a27 a28 a29 a30 a31 a32 a33 a34 a35 a36 a37 a38) 2 (ci_fr List.perm_append_comm List.perm_append_comm [ad 0, ad 2, ad 4, ad 6, ad 7, ad 8, ad 9, ad 10, ad 12, ad 19, ad 21, ad 23, ad 24, ad 25, ad 26, ad 28, ad 29, ad 30, ad 31, ad 33, ad 34, ad 36, ad 37, ad 38, ad 39] rfl rfl (c_X10_offer l G ad a0 a1 a2 a3 a4 a5 a6 a7 a8 a9 a10 a11 a12 a13 a14 a15 a16 a17 a18 a19 a20 a21 a22 a23 a24 a25 a26 a27 a28 a29 a30 a31 a32 a33 a34 a35 a36 a37 a38 (xs (nI k + (1 : Int32)).toNatClampNeg) (xs (nI k + (2 : Int32)).toNatClampNeg) (xs (nI k + (3 : Int32)).toNatClampNeg) (xs (nI k + (4 : Int32)).toNatClampNeg) (by with_reducible assumption) (by with_reducible assumption))) gL_law_X10_offer rfl (by decide +kernel) ⟨(Nat.le_of_ble_eq_true rfl), (Nat.le_of_ble_eq_true rfl)⟩ 43 rfl rfl rfl rfl (Nat.le_of_ble_eq_true rfl) (Nat.le_of_ble_eq_true rfl) (Nat.le_of_ble_eq_true rfl) dL_law_700 ?_
  refine s_icmp_eq X (pc := 703) (tgt := 944) dL_law_703 (by decide) (fun cq => ?_) (fun cq => absurd EE.1 cq)
  exact K (AD := AD) EE.2

set_option maxRecDepth 100000 in
set_option maxHeartbeats 4000000 in
theorem law_calm {p : Program} {l : Launch} {e : Env} {s : State} {m : MethodId} {below : List Frame} {meth : Method} {c : Code} {G : GT} {b L : Nat} {xs : Nat → Int32} (X : Cx p room_1 s m #[Value.ref b] meth c G (fun q : Nat => s.heap.size ≤ q) 4 cL_law wsL_law RL (some .boolean)) (hX : va_X b L xs s s.heap) (hbl : b < s.heap.size) {k : Nat} (hk : k + 5 ≤ L) (hL : L ≤ 320) {AD : Nat → Nat → Nat} {ad : Nat → Nat} {rd0 : Nat → Int32} {rd1 rd2 rd3 rd4 : Int32} {dy0 dy1 dy2 dy3 dy4 : Nat → Int32} {dy5 : Int32} {pa0 : Nat → Int32} {pa1 pa2 : Int32} {im0 im1 im2 pl0 pl1 pl2 pl3 pl4 pl5 : Nat → Int32} {pl6 pl7 pl8 : Int32} {er0 er1 : Nat → Int32} {er2 : Int32} {bk0 bk1 : Nat → Int32} {bk2 dr0 : Int32} {sh0 sh1 sh2 sh3 sh4 sh5 : Nat → Int32} {sh6 sh7 sh8 : Int32} {sp0 sp1 sp2 sp3 sp4 sp5 : Nat → Int32} {sp6 sp7 sp8 a0 : Int32} {a1 : Nat → Int32} {a2 : Int32} {a3 : Nat → Int32} {a4 : Int32} {a5 a6 a7 a8 a9 : Nat → Int32} {a10 : Int32} {a11 : Nat → Int32} {a12 a13 a14 a15 a16 a17 : Int32} {a18 : Nat → Int32} {a19 : Int32} {a20 : Nat → Int32} {a21 : Int32} {a22 a23 a24 a25 : Nat → Int32} {a26 : Int32} {a27 a28 a29 a30 : Nat → Int32} {a31 : Int32} {a32 a33 : Nat → Int32} {a34 : Int32} {a35 a36 a37 a38 : Nat → Int32} (hRel : Rel rd0 rd1 rd2 rd3 rd4 dy0 dy1 dy2 dy3 dy4 dy5 pa0 pa1 pa2 im0 im1 im2 pl0 pl1 pl2 pl3 pl4 pl5 pl6 pl7 pl8 er0 er1 er2 bk0 bk1 bk2 dr0 sh0 sh1 sh2 sh3 sh4 sh5 sh6 sh7 sh8 sp0 sp1 sp2 sp3 sp4 sp5 sp6 sp7 sp8 a0 a1 a2 a3 a4 a5 a6 a7 a8 a9 a10 a11 a12 a13 a14 a15 a16 a17 a18 a19 a20 a21 a22 a23 a24 a25 a26 a27 a28 a29 a30 a31 a32 a33 a34 a35 a36 a37 a38) (K : ∀ {AD : Nat → Nat → Nat} {rd0 : Nat → Int32} {rd1 rd2 rd3 rd4 : Int32} {dy0 dy1 dy2 dy3 dy4 : Nat → Int32} {dy5 : Int32} {pa0 : Nat → Int32} {pa1 pa2 : Int32} {im0 im1 im2 pl0 pl1 pl2 pl3 pl4 pl5 : Nat → Int32} {pl6 pl7 pl8 : Int32} {er0 er1 : Nat → Int32} {er2 : Int32} {bk0 bk1 : Nat → Int32} {bk2 dr0 : Int32} {sh0 sh1 sh2 sh3 sh4 sh5 : Nat → Int32} {sh6 sh7 sh8 : Int32} {sp0 sp1 sp2 sp3 sp4 sp5 : Nat → Int32} {sp6 sp7 sp8 a0 : Int32} {a1 : Nat → Int32} {a2 : Int32} {a3 : Nat → Int32} {a4 : Int32} {a5 a6 a7 a8 a9 : Nat → Int32} {a10 : Int32} {a11 : Nat → Int32} {a12 a13 a14 a15 a16 a17 : Int32} {a18 : Nat → Int32} {a19 : Int32} {a20 : Nat → Int32} {a21 : Int32} {a22 a23 a24 a25 : Nat → Int32} {a26 : Int32} {a27 a28 a29 a30 : Nat → Int32} {a31 : Int32} {a32 a33 : Nat → Int32} {a34 : Int32} {a35 a36 a37 a38 : Nat → Int32}, Rel rd0 rd1 rd2 rd3 rd4 dy0 dy1 dy2 dy3 dy4 dy5 pa0 pa1 pa2 im0 im1 im2 pl0 pl1 pl2 pl3 pl4 pl5 pl6 pl7 pl8 er0 er1 er2 bk0 bk1 bk2 dr0 sh0 sh1 sh2 sh3 sh4 sh5 sh6 sh7 sh8 sp0 sp1 sp2 sp3 sp4 sp5 sp6 sp7 sp8 a0 a1 a2 a3 a4 a5 a6 a7 a8 a9 a10 a11 a12 a13 a14 a15 a16 a17 a18 a19 a20 a21 a22 a23 a24 a25 a26 a27 a28 a29 a30 a31 a32 a33 a34 a35 a36 a37 a38 → Sm p l e room_1 s m #[Value.ref b] below meth c G (fun q : Nat => s.heap.size ≤ q) 4 68 1925 (lw_Z below #[Value.ref b] s) 944 [(3, .int (nI k)), (2, .ref (ad 0)), (1, .ref (AD 10 0)), (0, .ref b)] [] (wC G AD (AD 8 0) (AD 9 0) rd0 rd1 rd2 rd3 rd4 dy0 dy1 dy2 dy3 dy4 dy5 pa0 pa1 pa2 im0 im1 im2 pl0 pl1 pl2 pl3 pl4 pl5 pl6 pl7 pl8 er0 er1 er2 bk0 bk1 bk2 dr0 sh0 sh1 sh2 sh3 sh4 sh5 sh6 sh7 sh8 sp0 sp1 sp2 sp3 sp4 sp5 sp6 sp7 sp8 ++ wX10 G ad a0 a1 a2 a3 a4 a5 a6 a7 a8 a9 a10 a11 a12 a13 a14 a15 a16 a17 a18 a19 a20 a21 a22 a23 a24 a25 a26 a27 a28 a29 a30 a31 a32 a33 a34 a35 a36 a37 a38)) : Sm p l e room_1 s m #[Value.ref b] below meth c G (fun q : Nat => s.heap.size ≤ q) 4 68 1925 (lw_Z below #[Value.ref b] s) 708 [(3, .int (nI k)), (2, .ref (ad 0)), (1, .ref (AD 10 0)), (0, .ref b)] [] (wC G AD (AD 8 0) (AD 9 0) rd0 rd1 rd2 rd3 rd4 dy0 dy1 dy2 dy3 dy4 dy5 pa0 pa1 pa2 im0 im1 im2 pl0 pl1 pl2 pl3 pl4 pl5 pl6 pl7 pl8 er0 er1 er2 bk0 bk1 bk2 dr0 sh0 sh1 sh2 sh3 sh4 sh5 sh6 sh7 sh8 sp0 sp1 sp2 sp3 sp4 sp5 sp6 sp7 sp8 ++ wX10 G ad a0 a1 a2 a3 a4 a5 a6 a7 a8 a9 a10 a11 a12 a13 a14 a15 a16 a17 a18 a19 a20 a21 a22 a23 a24 a25 a26 a27 a28 a29 a30 a31 a32 a33 a34 a35 a36 a37 a38) := by
  obtain ⟨hT, hF, hB, hD, hI, hP, hM, hE, hK, hS, s0⟩ := hRel
  have k_t0 : 0 ≤ a0 := hB.2.1.1
  have k_t12 : a0 ≤ 12 := hB.2.1.2
  have k_h0 : 0 ≤ a2 := hB.2.2.1.1
  have k_h4 : a2 ≤ 4 := hB.2.2.1.2
  have k_ca : 0 ≤ a4 := hB.2.2.2.1.1
  have k_cb : a4 ≤ 5 := hB.2.2.2.1.2
  have k_th : 0 < a2 → 0 < a0 := hB.2.2.2.2.1
  have k_tc : 0 < a4 → 0 < a0 := hB.2.2.2.2.2.1
  have c_t12 : sh6 ≤ 12 := by rw [hB.1.1]; exact k_t12
  have c_h0 : 0 ≤ sh7 := by rw [hB.1.2.1]; exact k_h0
  have c_h4 : sh7 ≤ 4 := by rw [hB.1.2.1]; exact k_h4
  have c_ca : 0 ≤ sh8 := by rw [hB.1.2.2]; exact k_ca
  have c_cb : sh8 ≤ 5 := by rw [hB.1.2.2]; exact k_cb
  have hc5 := clampLe (n := 5) (b := 5) rfl k_ca k_cb
  have k_n0 : 0 ≤ a9 22 := hI.1.1
  have k_n9 : a9 22 ≤ 9060 := Int32.le_iff_toInt_le.mpr hI.1.2
  have k_NI : NI 9060 a9 := DI_NI hc5 hI
  have k_u0 : 0 ≤ a26 := hP.2.1
  have k_u20 : a26 ≤ 20 := hP.2.2.1
  have c_u0 : 0 ≤ pa1 := hP.2.2.2.1
  have c_u20 : pa1 < 20 := hP.2.2.2.2.1
  have k_x0 : 0 ≤ a12 := hT.2.1
  have k_x240 : a12 ≤ 240 := hT.2.2.1
  have c_x0 : 0 ≤ rd2 := by rw [hT.1]; exact k_x0
  have c_x240 : rd2 ≤ 240 := by rw [hT.1]; exact k_x240
  have k_e0 : 0 ≤ a31 := hE.2.1
  have k_e6 : a31 ≤ 6 := hE.2.2.1
  have c_e0 : 0 ≤ er2 := by rw [hE.1]; exact k_e0
  have c_e6 : er2 ≤ 6 := by rw [hE.1]; exact k_e6
  have k_b0 : 0 ≤ a34 := hK.2.1
  have k_b15 : a34 ≤ 15 := hK.2.2.1
  have c_b0 : 0 ≤ bk2 := by rw [hK.1]; exact k_b0
  have c_b15 : bk2 ≤ 15 := by rw [hK.1]; exact k_b15
  have k_bk : ∀ j : Nat, j < a34.toNatClampNeg → vp_in (a35 j) 5 := fun j hj => by
    have z := hK.2.2.2 j hj
    rw [cl_nI _ z.2.2.1]
    exact vp_in_nI (by omega) (by decide)
  have c_bk : ∀ j : Nat, j < bk2.toNatClampNeg → vp_in (bk0 j) 5 := fun j hj => by
    rw [hK.1] at hj
    rw [(hK.2.2.2 j hj).1]
    exact k_bk j hj
  have c_hL : ∀ j : Nat, j < 5 → ¬ rX0_hasCase sh8 (nI j) = 0 → 1 ≤ sh3 j ∧ sh3 j ≤ 4 := fun j h5 hj => hL_of hB h5 hj
  have EE : rX9_calm (xs (nI k + (1 : Int32)).toNatClampNeg) (xs (nI k + (2 : Int32)).toNatClampNeg) = rX10_calm (xs (nI k + (1 : Int32)).toNatClampNeg) (xs (nI k + (2 : Int32)).toNatClampNeg) ∧ Rel rd0 rd1 rd2 rd3 rd4 dy0 dy1 dy2 dy3 dy4 dy5 pa0 pa1 pa2 im0 im1 im2 pl0 pl1 pl2 pl3 pl4 pl5 pl6 pl7 pl8 er0 er1 er2 bk0 bk1 bk2 dr0 sh0 sh1 sh2 sh3 sh4 sh5 sh6 sh7 sh8 sp0 sp1 sp2 sp3 sp4 sp5 sp6 sp7 sp8 a0 a1 a2 a3 a4 a5 a6 a7 a8 a9 a10 a11 a12 a13 a14 a15 a16 a17 a18 a19 a20 a21 a22 a23 a24 a25 a26 a27 a28 a29 a30 a31 a32 a33 a34 a35 a36 a37 a38 := by
    exact ⟨e_calm, hT, hF, hB, hD, hI, hP, hM, hE, hK, hS, s0⟩
  refine s_aload_n X (pc := 708) (x := (AD 10 0)) 2 dL_law_708 rfl ?_
  refine s_aload_n X (pc := 709) (x := b) 3 dL_law_709 rfl ?_
  refine s_iload_n X (pc := 710) (x := nI k) 0 dL_law_710 rfl ?_
  refine s_iconst X (pc := 711) (v := 1) dL_law_711 (by decide) ?_
  refine s_iadd X (pc := 712) dL_law_712 ?_
  refine s_sld X (pc := 713) hX hbl (ix5 (j := 1) rfl (by decide) hk hL) dL_law_713 ?_
  refine s_aload_n X (pc := 714) (x := b) 3 dL_law_714 rfl ?_
  refine s_iload_n X (pc := 715) (x := nI k) 0 dL_law_715 rfl ?_
  refine s_iconst X (pc := 716) (v := 2) dL_law_716 (by decide) ?_
  refine s_iadd X (pc := 717) dL_law_717 ?_
  refine s_sld X (pc := 718) hX hbl (ix5 (j := 2) rfl (by decide) hk hL) dL_law_718 ?_
  refine s_callVi0 X (pc := 719) (cells := 68) (slots := 1925) (r := rX9_calm (xs (nI k + (1 : Int32)).toNatClampNeg) (xs (nI k + (2 : Int32)).toNatClampNeg)) (w := wC G AD (AD 8 0) (AD 9 0) rd0 rd1 rd2 rd3 rd4 dy0 dy1 dy2 dy3 dy4 dy5 pa0 pa1 pa2 im0 im1 im2 pl0 pl1 pl2 pl3 pl4 pl5 pl6 pl7 pl8 er0 er1 er2 bk0 bk1 bk2 dr0 sh0 sh1 sh2 sh3 sh4 sh5 sh6 sh7 sh8 sp0 sp1 sp2 sp3 sp4 sp5 sp6 sp7 sp8 ++ wX10 G ad a0 a1 a2 a3 a4 a5 a6 a7 a8 a9 a10 a11 a12 a13 a14 a15 a16 a17 a18 a19 a20 a21 a22 a23 a24 a25 a26 a27 a28 a29 a30 a31 a32 a33 a34 a35 a36 a37 a38) (n := 2) (st := []) (As := [.int (xs (nI k + (1 : Int32)).toNatClampNeg), .int (xs (nI k + (2 : Int32)).toNatClampNeg)]) (w2 := wC G AD (AD 8 0) (AD 9 0) rd0 rd1 rd2 rd3 rd4 dy0 dy1 dy2 dy3 dy4 dy5 pa0 pa1 pa2 im0 im1 im2 pl0 pl1 pl2 pl3 pl4 pl5 pl6 pl7 pl8 er0 er1 er2 bk0 bk1 bk2 dr0 sh0 sh1 sh2 sh3 sh4 sh5 sh6 sh7 sh8 sp0 sp1 sp2 sp3 sp4 sp5 sp6 sp7 sp8 ++ wX10 G ad a0 a1 a2 a3 a4 a5 a6 a7 a8 a9 a10 a11 a12 a13 a14 a15 a16 a17 a18 a19 a20 a21 a22 a23 a24 a25 a26 a27 a28 a29 a30 a31 a32 a33 a34 a35 a36 a37 a38) 1 (ci_fr (List.Perm.refl _) (List.Perm.refl _) [AD 10 0, AD 0 0, AD 0 1, AD 1 0, AD 1 1, AD 1 2, AD 1 3, AD 1 4, AD 1 5, AD 2 0, AD 2 1, AD 3 0, AD 3 1, AD 3 2, AD 3 3, AD 4 0, AD 4 1, AD 4 2, AD 4 3, AD 4 4, AD 4 5, AD 4 6, AD 5 0, AD 5 1, AD 5 2, AD 6 0, AD 6 1, AD 6 2, AD 7 0, AD 8 0, AD 8 1, AD 8 2, AD 8 3, AD 8 4, AD 8 5, AD 8 6, AD 9 0, AD 9 1, AD 9 2, AD 9 3, AD 9 4, AD 9 5, AD 9 6] rfl rfl (c_X9_calm l G AD rd0 rd1 rd2 rd3 rd4 dy0 dy1 dy2 dy3 dy4 dy5 pa0 pa1 pa2 im0 im1 im2 pl0 pl1 pl2 pl3 pl4 pl5 pl6 pl7 pl8 er0 er1 er2 bk0 bk1 bk2 dr0 sh0 sh1 sh2 sh3 sh4 sh5 sh6 sh7 sh8 sp0 sp1 sp2 sp3 sp4 sp5 sp6 sp7 sp8 (xs (nI k + (1 : Int32)).toNatClampNeg) (xs (nI k + (2 : Int32)).toNatClampNeg))) gL_law_X9_calm rfl (by decide +kernel) ⟨(Nat.le_of_ble_eq_true rfl), (Nat.le_of_ble_eq_true rfl)⟩ 0 rfl rfl rfl rfl (Nat.le_of_ble_eq_true rfl) (Nat.le_of_ble_eq_true rfl) (Nat.le_of_ble_eq_true rfl) dL_law_719 ?_
  refine s_aload_n X (pc := 722) (x := (ad 0)) 1 dL_law_722 rfl ?_
  refine s_aload_n X (pc := 723) (x := b) 3 dL_law_723 rfl ?_
  refine s_iload_n X (pc := 724) (x := nI k) 0 dL_law_724 rfl ?_
  refine s_iconst X (pc := 725) (v := 1) dL_law_725 (by decide) ?_
  refine s_iadd X (pc := 726) dL_law_726 ?_
  refine s_sld X (pc := 727) hX hbl (ix5 (j := 1) rfl (by decide) hk hL) dL_law_727 ?_
  refine s_aload_n X (pc := 728) (x := b) 3 dL_law_728 rfl ?_
  refine s_iload_n X (pc := 729) (x := nI k) 0 dL_law_729 rfl ?_
  refine s_iconst X (pc := 730) (v := 2) dL_law_730 (by decide) ?_
  refine s_iadd X (pc := 731) dL_law_731 ?_
  refine s_sld X (pc := 732) hX hbl (ix5 (j := 2) rfl (by decide) hk hL) dL_law_732 ?_
  refine s_callVi0 X (pc := 733) (cells := 68) (slots := 1925) (r := rX10_calm (xs (nI k + (1 : Int32)).toNatClampNeg) (xs (nI k + (2 : Int32)).toNatClampNeg)) (w := wC G AD (AD 8 0) (AD 9 0) rd0 rd1 rd2 rd3 rd4 dy0 dy1 dy2 dy3 dy4 dy5 pa0 pa1 pa2 im0 im1 im2 pl0 pl1 pl2 pl3 pl4 pl5 pl6 pl7 pl8 er0 er1 er2 bk0 bk1 bk2 dr0 sh0 sh1 sh2 sh3 sh4 sh5 sh6 sh7 sh8 sp0 sp1 sp2 sp3 sp4 sp5 sp6 sp7 sp8 ++ wX10 G ad a0 a1 a2 a3 a4 a5 a6 a7 a8 a9 a10 a11 a12 a13 a14 a15 a16 a17 a18 a19 a20 a21 a22 a23 a24 a25 a26 a27 a28 a29 a30 a31 a32 a33 a34 a35 a36 a37 a38) (n := 2) (st := [.int (rX9_calm (xs (nI k + (1 : Int32)).toNatClampNeg) (xs (nI k + (2 : Int32)).toNatClampNeg))]) (As := [.int (xs (nI k + (1 : Int32)).toNatClampNeg), .int (xs (nI k + (2 : Int32)).toNatClampNeg)]) (w2 := wC G AD (AD 8 0) (AD 9 0) rd0 rd1 rd2 rd3 rd4 dy0 dy1 dy2 dy3 dy4 dy5 pa0 pa1 pa2 im0 im1 im2 pl0 pl1 pl2 pl3 pl4 pl5 pl6 pl7 pl8 er0 er1 er2 bk0 bk1 bk2 dr0 sh0 sh1 sh2 sh3 sh4 sh5 sh6 sh7 sh8 sp0 sp1 sp2 sp3 sp4 sp5 sp6 sp7 sp8 ++ wX10 G ad a0 a1 a2 a3 a4 a5 a6 a7 a8 a9 a10 a11 a12 a13 a14 a15 a16 a17 a18 a19 a20 a21 a22 a23 a24 a25 a26 a27 a28 a29 a30 a31 a32 a33 a34 a35 a36 a37 a38) 1 (ci_fr List.perm_append_comm List.perm_append_comm [ad 0, ad 2, ad 4, ad 6, ad 7, ad 8, ad 9, ad 10, ad 12, ad 19, ad 21, ad 23, ad 24, ad 25, ad 26, ad 28, ad 29, ad 30, ad 31, ad 33, ad 34, ad 36, ad 37, ad 38, ad 39] rfl rfl (c_X10_calm l G ad a0 a1 a2 a3 a4 a5 a6 a7 a8 a9 a10 a11 a12 a13 a14 a15 a16 a17 a18 a19 a20 a21 a22 a23 a24 a25 a26 a27 a28 a29 a30 a31 a32 a33 a34 a35 a36 a37 a38 (xs (nI k + (1 : Int32)).toNatClampNeg) (xs (nI k + (2 : Int32)).toNatClampNeg))) gL_law_X10_calm rfl (by decide +kernel) ⟨(Nat.le_of_ble_eq_true rfl), (Nat.le_of_ble_eq_true rfl)⟩ 43 rfl rfl rfl rfl (Nat.le_of_ble_eq_true rfl) (Nat.le_of_ble_eq_true rfl) (Nat.le_of_ble_eq_true rfl) dL_law_733 ?_
  refine s_icmp_eq X (pc := 736) (tgt := 944) dL_law_736 (by decide) (fun cq => ?_) (fun cq => absurd EE.1 cq)
  exact K (AD := AD) EE.2

set_option maxRecDepth 100000 in
set_option maxHeartbeats 4000000 in
theorem law_shout {p : Program} {l : Launch} {e : Env} {s : State} {m : MethodId} {below : List Frame} {meth : Method} {c : Code} {G : GT} {b L : Nat} {xs : Nat → Int32} (X : Cx p room_1 s m #[Value.ref b] meth c G (fun q : Nat => s.heap.size ≤ q) 4 cL_law wsL_law RL (some .boolean)) (hX : va_X b L xs s s.heap) (hbl : b < s.heap.size) {k : Nat} (hk : k + 5 ≤ L) (hL : L ≤ 320) {AD : Nat → Nat → Nat} {ad : Nat → Nat} {rd0 : Nat → Int32} {rd1 rd2 rd3 rd4 : Int32} {dy0 dy1 dy2 dy3 dy4 : Nat → Int32} {dy5 : Int32} {pa0 : Nat → Int32} {pa1 pa2 : Int32} {im0 im1 im2 pl0 pl1 pl2 pl3 pl4 pl5 : Nat → Int32} {pl6 pl7 pl8 : Int32} {er0 er1 : Nat → Int32} {er2 : Int32} {bk0 bk1 : Nat → Int32} {bk2 dr0 : Int32} {sh0 sh1 sh2 sh3 sh4 sh5 : Nat → Int32} {sh6 sh7 sh8 : Int32} {sp0 sp1 sp2 sp3 sp4 sp5 : Nat → Int32} {sp6 sp7 sp8 a0 : Int32} {a1 : Nat → Int32} {a2 : Int32} {a3 : Nat → Int32} {a4 : Int32} {a5 a6 a7 a8 a9 : Nat → Int32} {a10 : Int32} {a11 : Nat → Int32} {a12 a13 a14 a15 a16 a17 : Int32} {a18 : Nat → Int32} {a19 : Int32} {a20 : Nat → Int32} {a21 : Int32} {a22 a23 a24 a25 : Nat → Int32} {a26 : Int32} {a27 a28 a29 a30 : Nat → Int32} {a31 : Int32} {a32 a33 : Nat → Int32} {a34 : Int32} {a35 a36 a37 a38 : Nat → Int32} (hRel : Rel rd0 rd1 rd2 rd3 rd4 dy0 dy1 dy2 dy3 dy4 dy5 pa0 pa1 pa2 im0 im1 im2 pl0 pl1 pl2 pl3 pl4 pl5 pl6 pl7 pl8 er0 er1 er2 bk0 bk1 bk2 dr0 sh0 sh1 sh2 sh3 sh4 sh5 sh6 sh7 sh8 sp0 sp1 sp2 sp3 sp4 sp5 sp6 sp7 sp8 a0 a1 a2 a3 a4 a5 a6 a7 a8 a9 a10 a11 a12 a13 a14 a15 a16 a17 a18 a19 a20 a21 a22 a23 a24 a25 a26 a27 a28 a29 a30 a31 a32 a33 a34 a35 a36 a37 a38) (K : ∀ {AD : Nat → Nat → Nat} {rd0 : Nat → Int32} {rd1 rd2 rd3 rd4 : Int32} {dy0 dy1 dy2 dy3 dy4 : Nat → Int32} {dy5 : Int32} {pa0 : Nat → Int32} {pa1 pa2 : Int32} {im0 im1 im2 pl0 pl1 pl2 pl3 pl4 pl5 : Nat → Int32} {pl6 pl7 pl8 : Int32} {er0 er1 : Nat → Int32} {er2 : Int32} {bk0 bk1 : Nat → Int32} {bk2 dr0 : Int32} {sh0 sh1 sh2 sh3 sh4 sh5 : Nat → Int32} {sh6 sh7 sh8 : Int32} {sp0 sp1 sp2 sp3 sp4 sp5 : Nat → Int32} {sp6 sp7 sp8 a0 : Int32} {a1 : Nat → Int32} {a2 : Int32} {a3 : Nat → Int32} {a4 : Int32} {a5 a6 a7 a8 a9 : Nat → Int32} {a10 : Int32} {a11 : Nat → Int32} {a12 a13 a14 a15 a16 a17 : Int32} {a18 : Nat → Int32} {a19 : Int32} {a20 : Nat → Int32} {a21 : Int32} {a22 a23 a24 a25 : Nat → Int32} {a26 : Int32} {a27 a28 a29 a30 : Nat → Int32} {a31 : Int32} {a32 a33 : Nat → Int32} {a34 : Int32} {a35 a36 a37 a38 : Nat → Int32}, Rel rd0 rd1 rd2 rd3 rd4 dy0 dy1 dy2 dy3 dy4 dy5 pa0 pa1 pa2 im0 im1 im2 pl0 pl1 pl2 pl3 pl4 pl5 pl6 pl7 pl8 er0 er1 er2 bk0 bk1 bk2 dr0 sh0 sh1 sh2 sh3 sh4 sh5 sh6 sh7 sh8 sp0 sp1 sp2 sp3 sp4 sp5 sp6 sp7 sp8 a0 a1 a2 a3 a4 a5 a6 a7 a8 a9 a10 a11 a12 a13 a14 a15 a16 a17 a18 a19 a20 a21 a22 a23 a24 a25 a26 a27 a28 a29 a30 a31 a32 a33 a34 a35 a36 a37 a38 → Sm p l e room_1 s m #[Value.ref b] below meth c G (fun q : Nat => s.heap.size ≤ q) 4 68 1925 (lw_Z below #[Value.ref b] s) 944 [(3, .int (nI k)), (2, .ref (ad 0)), (1, .ref (AD 10 0)), (0, .ref b)] [] (wC G AD (AD 8 0) (AD 9 0) rd0 rd1 rd2 rd3 rd4 dy0 dy1 dy2 dy3 dy4 dy5 pa0 pa1 pa2 im0 im1 im2 pl0 pl1 pl2 pl3 pl4 pl5 pl6 pl7 pl8 er0 er1 er2 bk0 bk1 bk2 dr0 sh0 sh1 sh2 sh3 sh4 sh5 sh6 sh7 sh8 sp0 sp1 sp2 sp3 sp4 sp5 sp6 sp7 sp8 ++ wX10 G ad a0 a1 a2 a3 a4 a5 a6 a7 a8 a9 a10 a11 a12 a13 a14 a15 a16 a17 a18 a19 a20 a21 a22 a23 a24 a25 a26 a27 a28 a29 a30 a31 a32 a33 a34 a35 a36 a37 a38)) : Sm p l e room_1 s m #[Value.ref b] below meth c G (fun q : Nat => s.heap.size ≤ q) 4 68 1925 (lw_Z below #[Value.ref b] s) 741 [(3, .int (nI k)), (2, .ref (ad 0)), (1, .ref (AD 10 0)), (0, .ref b)] [] (wC G AD (AD 8 0) (AD 9 0) rd0 rd1 rd2 rd3 rd4 dy0 dy1 dy2 dy3 dy4 dy5 pa0 pa1 pa2 im0 im1 im2 pl0 pl1 pl2 pl3 pl4 pl5 pl6 pl7 pl8 er0 er1 er2 bk0 bk1 bk2 dr0 sh0 sh1 sh2 sh3 sh4 sh5 sh6 sh7 sh8 sp0 sp1 sp2 sp3 sp4 sp5 sp6 sp7 sp8 ++ wX10 G ad a0 a1 a2 a3 a4 a5 a6 a7 a8 a9 a10 a11 a12 a13 a14 a15 a16 a17 a18 a19 a20 a21 a22 a23 a24 a25 a26 a27 a28 a29 a30 a31 a32 a33 a34 a35 a36 a37 a38) := by
  obtain ⟨hT, hF, hB, hD, hI, hP, hM, hE, hK, hS, s0⟩ := hRel
  have k_t0 : 0 ≤ a0 := hB.2.1.1
  have k_t12 : a0 ≤ 12 := hB.2.1.2
  have k_h0 : 0 ≤ a2 := hB.2.2.1.1
  have k_h4 : a2 ≤ 4 := hB.2.2.1.2
  have k_ca : 0 ≤ a4 := hB.2.2.2.1.1
  have k_cb : a4 ≤ 5 := hB.2.2.2.1.2
  have k_th : 0 < a2 → 0 < a0 := hB.2.2.2.2.1
  have k_tc : 0 < a4 → 0 < a0 := hB.2.2.2.2.2.1
  have c_t12 : sh6 ≤ 12 := by rw [hB.1.1]; exact k_t12
  have c_h0 : 0 ≤ sh7 := by rw [hB.1.2.1]; exact k_h0
  have c_h4 : sh7 ≤ 4 := by rw [hB.1.2.1]; exact k_h4
  have c_ca : 0 ≤ sh8 := by rw [hB.1.2.2]; exact k_ca
  have c_cb : sh8 ≤ 5 := by rw [hB.1.2.2]; exact k_cb
  have hc5 := clampLe (n := 5) (b := 5) rfl k_ca k_cb
  have k_n0 : 0 ≤ a9 22 := hI.1.1
  have k_n9 : a9 22 ≤ 9060 := Int32.le_iff_toInt_le.mpr hI.1.2
  have k_NI : NI 9060 a9 := DI_NI hc5 hI
  have k_u0 : 0 ≤ a26 := hP.2.1
  have k_u20 : a26 ≤ 20 := hP.2.2.1
  have c_u0 : 0 ≤ pa1 := hP.2.2.2.1
  have c_u20 : pa1 < 20 := hP.2.2.2.2.1
  have k_x0 : 0 ≤ a12 := hT.2.1
  have k_x240 : a12 ≤ 240 := hT.2.2.1
  have c_x0 : 0 ≤ rd2 := by rw [hT.1]; exact k_x0
  have c_x240 : rd2 ≤ 240 := by rw [hT.1]; exact k_x240
  have k_e0 : 0 ≤ a31 := hE.2.1
  have k_e6 : a31 ≤ 6 := hE.2.2.1
  have c_e0 : 0 ≤ er2 := by rw [hE.1]; exact k_e0
  have c_e6 : er2 ≤ 6 := by rw [hE.1]; exact k_e6
  have k_b0 : 0 ≤ a34 := hK.2.1
  have k_b15 : a34 ≤ 15 := hK.2.2.1
  have c_b0 : 0 ≤ bk2 := by rw [hK.1]; exact k_b0
  have c_b15 : bk2 ≤ 15 := by rw [hK.1]; exact k_b15
  have k_bk : ∀ j : Nat, j < a34.toNatClampNeg → vp_in (a35 j) 5 := fun j hj => by
    have z := hK.2.2.2 j hj
    rw [cl_nI _ z.2.2.1]
    exact vp_in_nI (by omega) (by decide)
  have c_bk : ∀ j : Nat, j < bk2.toNatClampNeg → vp_in (bk0 j) 5 := fun j hj => by
    rw [hK.1] at hj
    rw [(hK.2.2.2 j hj).1]
    exact k_bk j hj
  have c_hL : ∀ j : Nat, j < 5 → ¬ rX0_hasCase sh8 (nI j) = 0 → 1 ≤ sh3 j ∧ sh3 j ≤ 4 := fun j h5 hj => hL_of hB h5 hj
  by_cases hbz : xs (nI k + (2 : Int32)).toNatClampNeg = 0
  · have EE : rX9_shout er2 (xs (nI k + (1 : Int32)).toNatClampNeg) = rX10_shout a31 (xs (nI k + (1 : Int32)).toNatClampNeg) ∧ Rel rd0 rd1 rd2 rd3 rd4 dy0 dy1 dy2 dy3 dy4 dy5 pa0 pa1 pa2 im0 im1 im2 pl0 pl1 pl2 pl3 pl4 pl5 pl6 pl7 pl8 (sX9_shout_o5_0 er0 er2 (xs (nI k + (1 : Int32)).toNatClampNeg)) (sX9_shout_o5_1 er1 er2 (xs (nI k + (1 : Int32)).toNatClampNeg) (0 : Int32)) (sX9_shout_o5_2 er2 (xs (nI k + (1 : Int32)).toNatClampNeg)) bk0 bk1 bk2 dr0 sh0 sh1 sh2 sh3 sh4 sh5 sh6 sh7 sh8 sp0 sp1 sp2 sp3 sp4 sp5 sp6 sp7 sp8 a0 a1 a2 a3 a4 a5 a6 a7 a8 a9 a10 a11 a12 a13 a14 a15 a16 a17 a18 a19 a20 a21 a22 a23 a24 a25 a26 a27 a28 a29 a30 (sX10_shout_31 a31 (xs (nI k + (1 : Int32)).toNatClampNeg)) (sX10_shout_32 a31 a32 (xs (nI k + (1 : Int32)).toNatClampNeg)) (sX10_shout_33 a31 a33 (xs (nI k + (1 : Int32)).toNatClampNeg) (0 : Int32)) a34 a35 a36 a37 a38 := by
      have z := e_shout (p0 := (xs (nI k + (1 : Int32)).toNatClampNeg)) (p1 := (0 : Int32)) hE
      exact ⟨z.1, hT, hF, hB, hD, hI, hP, hM, z.2, hK, hS, s0⟩
    refine s_aload_n X (pc := 741) (x := (AD 10 0)) 2 dL_law_741 rfl ?_
    refine s_aload_n X (pc := 742) (x := b) 3 dL_law_742 rfl ?_
    refine s_iload_n X (pc := 743) (x := nI k) 0 dL_law_743 rfl ?_
    refine s_iconst X (pc := 744) (v := 1) dL_law_744 (by decide) ?_
    refine s_iadd X (pc := 745) dL_law_745 ?_
    refine s_sld X (pc := 746) hX hbl (ix5 (j := 1) rfl (by decide) hk hL) dL_law_746 ?_
    refine s_aload_n X (pc := 747) (x := b) 3 dL_law_747 rfl ?_
    refine s_iload_n X (pc := 748) (x := nI k) 0 dL_law_748 rfl ?_
    refine s_iconst X (pc := 749) (v := 2) dL_law_749 (by decide) ?_
    refine s_iadd X (pc := 750) dL_law_750 ?_
    refine s_sld X (pc := 751) hX hbl (ix5 (j := 2) rfl (by decide) hk hL) dL_law_751 ?_
    refine s_if_eq X (pc := 752) (tgt := 759) dL_law_752 (by decide) (fun _ => ?_) (fun q => absurd hbz q)
    refine s_iconst X (pc := 759) (v := 0) dL_law_759 (by decide) ?_
    refine s_callVi0 X (pc := 760) (cells := 68) (slots := 1925) (r := rX9_shout er2 (xs (nI k + (1 : Int32)).toNatClampNeg)) (w := wC G AD (AD 8 0) (AD 9 0) rd0 rd1 rd2 rd3 rd4 dy0 dy1 dy2 dy3 dy4 dy5 pa0 pa1 pa2 im0 im1 im2 pl0 pl1 pl2 pl3 pl4 pl5 pl6 pl7 pl8 er0 er1 er2 bk0 bk1 bk2 dr0 sh0 sh1 sh2 sh3 sh4 sh5 sh6 sh7 sh8 sp0 sp1 sp2 sp3 sp4 sp5 sp6 sp7 sp8 ++ wX10 G ad a0 a1 a2 a3 a4 a5 a6 a7 a8 a9 a10 a11 a12 a13 a14 a15 a16 a17 a18 a19 a20 a21 a22 a23 a24 a25 a26 a27 a28 a29 a30 a31 a32 a33 a34 a35 a36 a37 a38) (n := 2) (st := []) (As := [.int (xs (nI k + (1 : Int32)).toNatClampNeg), .int (0 : Int32)]) (w2 := wC G AD (AD 8 0) (AD 9 0) rd0 rd1 rd2 rd3 rd4 dy0 dy1 dy2 dy3 dy4 dy5 pa0 pa1 pa2 im0 im1 im2 pl0 pl1 pl2 pl3 pl4 pl5 pl6 pl7 pl8 (sX9_shout_o5_0 er0 er2 (xs (nI k + (1 : Int32)).toNatClampNeg)) (sX9_shout_o5_1 er1 er2 (xs (nI k + (1 : Int32)).toNatClampNeg) (0 : Int32)) (sX9_shout_o5_2 er2 (xs (nI k + (1 : Int32)).toNatClampNeg)) bk0 bk1 bk2 dr0 sh0 sh1 sh2 sh3 sh4 sh5 sh6 sh7 sh8 sp0 sp1 sp2 sp3 sp4 sp5 sp6 sp7 sp8 ++ wX10 G ad a0 a1 a2 a3 a4 a5 a6 a7 a8 a9 a10 a11 a12 a13 a14 a15 a16 a17 a18 a19 a20 a21 a22 a23 a24 a25 a26 a27 a28 a29 a30 a31 a32 a33 a34 a35 a36 a37 a38) 2 (ci_fr (List.Perm.refl _) (List.Perm.refl _) [AD 10 0, AD 0 0, AD 0 1, AD 1 0, AD 1 1, AD 1 2, AD 1 3, AD 1 4, AD 1 5, AD 2 0, AD 2 1, AD 3 0, AD 3 1, AD 3 2, AD 3 3, AD 4 0, AD 4 1, AD 4 2, AD 4 3, AD 4 4, AD 4 5, AD 4 6, AD 5 0, AD 5 1, AD 5 2, AD 6 0, AD 6 1, AD 6 2, AD 7 0, AD 8 0, AD 8 1, AD 8 2, AD 8 3, AD 8 4, AD 8 5, AD 8 6, AD 9 0, AD 9 1, AD 9 2, AD 9 3, AD 9 4, AD 9 5, AD 9 6] rfl rfl (c_X9_shout l G AD rd0 rd1 rd2 rd3 rd4 dy0 dy1 dy2 dy3 dy4 dy5 pa0 pa1 pa2 im0 im1 im2 pl0 pl1 pl2 pl3 pl4 pl5 pl6 pl7 pl8 er0 er1 er2 bk0 bk1 bk2 dr0 sh0 sh1 sh2 sh3 sh4 sh5 sh6 sh7 sh8 sp0 sp1 sp2 sp3 sp4 sp5 sp6 sp7 sp8 (xs (nI k + (1 : Int32)).toNatClampNeg) (0 : Int32) (by with_reducible assumption) (by with_reducible assumption) (Or.inl rfl))) gL_law_X9_shout rfl (by decide +kernel) ⟨(Nat.le_of_ble_eq_true rfl), (Nat.le_of_ble_eq_true rfl)⟩ 0 rfl rfl rfl rfl (Nat.le_of_ble_eq_true rfl) (Nat.le_of_ble_eq_true rfl) (Nat.le_of_ble_eq_true rfl) dL_law_760 ?_
    refine s_aload_n X (pc := 763) (x := (ad 0)) 1 dL_law_763 rfl ?_
    refine s_aload_n X (pc := 764) (x := b) 3 dL_law_764 rfl ?_
    refine s_iload_n X (pc := 765) (x := nI k) 0 dL_law_765 rfl ?_
    refine s_iconst X (pc := 766) (v := 1) dL_law_766 (by decide) ?_
    refine s_iadd X (pc := 767) dL_law_767 ?_
    refine s_sld X (pc := 768) hX hbl (ix5 (j := 1) rfl (by decide) hk hL) dL_law_768 ?_
    refine s_aload_n X (pc := 769) (x := b) 3 dL_law_769 rfl ?_
    refine s_iload_n X (pc := 770) (x := nI k) 0 dL_law_770 rfl ?_
    refine s_iconst X (pc := 771) (v := 2) dL_law_771 (by decide) ?_
    refine s_iadd X (pc := 772) dL_law_772 ?_
    refine s_sld X (pc := 773) hX hbl (ix5 (j := 2) rfl (by decide) hk hL) dL_law_773 ?_
    refine s_if_eq X (pc := 774) (tgt := 781) dL_law_774 (by decide) (fun _ => ?_) (fun q => absurd hbz q)
    refine s_iconst X (pc := 781) (v := 0) dL_law_781 (by decide) ?_
    refine s_callVi0 X (pc := 782) (cells := 68) (slots := 1925) (r := rX10_shout a31 (xs (nI k + (1 : Int32)).toNatClampNeg)) (w := wC G AD (AD 8 0) (AD 9 0) rd0 rd1 rd2 rd3 rd4 dy0 dy1 dy2 dy3 dy4 dy5 pa0 pa1 pa2 im0 im1 im2 pl0 pl1 pl2 pl3 pl4 pl5 pl6 pl7 pl8 (sX9_shout_o5_0 er0 er2 (xs (nI k + (1 : Int32)).toNatClampNeg)) (sX9_shout_o5_1 er1 er2 (xs (nI k + (1 : Int32)).toNatClampNeg) (0 : Int32)) (sX9_shout_o5_2 er2 (xs (nI k + (1 : Int32)).toNatClampNeg)) bk0 bk1 bk2 dr0 sh0 sh1 sh2 sh3 sh4 sh5 sh6 sh7 sh8 sp0 sp1 sp2 sp3 sp4 sp5 sp6 sp7 sp8 ++ wX10 G ad a0 a1 a2 a3 a4 a5 a6 a7 a8 a9 a10 a11 a12 a13 a14 a15 a16 a17 a18 a19 a20 a21 a22 a23 a24 a25 a26 a27 a28 a29 a30 a31 a32 a33 a34 a35 a36 a37 a38) (n := 2) (st := [.int (rX9_shout er2 (xs (nI k + (1 : Int32)).toNatClampNeg))]) (As := [.int (xs (nI k + (1 : Int32)).toNatClampNeg), .int (0 : Int32)]) (w2 := wC G AD (AD 8 0) (AD 9 0) rd0 rd1 rd2 rd3 rd4 dy0 dy1 dy2 dy3 dy4 dy5 pa0 pa1 pa2 im0 im1 im2 pl0 pl1 pl2 pl3 pl4 pl5 pl6 pl7 pl8 (sX9_shout_o5_0 er0 er2 (xs (nI k + (1 : Int32)).toNatClampNeg)) (sX9_shout_o5_1 er1 er2 (xs (nI k + (1 : Int32)).toNatClampNeg) (0 : Int32)) (sX9_shout_o5_2 er2 (xs (nI k + (1 : Int32)).toNatClampNeg)) bk0 bk1 bk2 dr0 sh0 sh1 sh2 sh3 sh4 sh5 sh6 sh7 sh8 sp0 sp1 sp2 sp3 sp4 sp5 sp6 sp7 sp8 ++ wX10 G ad a0 a1 a2 a3 a4 a5 a6 a7 a8 a9 a10 a11 a12 a13 a14 a15 a16 a17 a18 a19 a20 a21 a22 a23 a24 a25 a26 a27 a28 a29 a30 (sX10_shout_31 a31 (xs (nI k + (1 : Int32)).toNatClampNeg)) (sX10_shout_32 a31 a32 (xs (nI k + (1 : Int32)).toNatClampNeg)) (sX10_shout_33 a31 a33 (xs (nI k + (1 : Int32)).toNatClampNeg) (0 : Int32)) a34 a35 a36 a37 a38) 1 (ci_fr List.perm_append_comm List.perm_append_comm [ad 0, ad 2, ad 4, ad 6, ad 7, ad 8, ad 9, ad 10, ad 12, ad 19, ad 21, ad 23, ad 24, ad 25, ad 26, ad 28, ad 29, ad 30, ad 31, ad 33, ad 34, ad 36, ad 37, ad 38, ad 39] rfl rfl (c_X10_shout l G ad a0 a1 a2 a3 a4 a5 a6 a7 a8 a9 a10 a11 a12 a13 a14 a15 a16 a17 a18 a19 a20 a21 a22 a23 a24 a25 a26 a27 a28 a29 a30 a31 a32 a33 a34 a35 a36 a37 a38 (xs (nI k + (1 : Int32)).toNatClampNeg) (0 : Int32) (by with_reducible assumption) (by with_reducible assumption) (Or.inl rfl))) gL_law_X10_shout rfl (by decide +kernel) ⟨(Nat.le_of_ble_eq_true rfl), (Nat.le_of_ble_eq_true rfl)⟩ 43 rfl rfl rfl rfl (Nat.le_of_ble_eq_true rfl) (Nat.le_of_ble_eq_true rfl) (Nat.le_of_ble_eq_true rfl) dL_law_782 ?_
    refine s_icmp_eq X (pc := 785) (tgt := 944) dL_law_785 (by decide) (fun cq => ?_) (fun cq => absurd EE.1 cq)
    exact K (AD := AD) EE.2
  · have EE : rX9_shout er2 (xs (nI k + (1 : Int32)).toNatClampNeg) = rX10_shout a31 (xs (nI k + (1 : Int32)).toNatClampNeg) ∧ Rel rd0 rd1 rd2 rd3 rd4 dy0 dy1 dy2 dy3 dy4 dy5 pa0 pa1 pa2 im0 im1 im2 pl0 pl1 pl2 pl3 pl4 pl5 pl6 pl7 pl8 (sX9_shout_o5_0 er0 er2 (xs (nI k + (1 : Int32)).toNatClampNeg)) (sX9_shout_o5_1 er1 er2 (xs (nI k + (1 : Int32)).toNatClampNeg) (1 : Int32)) (sX9_shout_o5_2 er2 (xs (nI k + (1 : Int32)).toNatClampNeg)) bk0 bk1 bk2 dr0 sh0 sh1 sh2 sh3 sh4 sh5 sh6 sh7 sh8 sp0 sp1 sp2 sp3 sp4 sp5 sp6 sp7 sp8 a0 a1 a2 a3 a4 a5 a6 a7 a8 a9 a10 a11 a12 a13 a14 a15 a16 a17 a18 a19 a20 a21 a22 a23 a24 a25 a26 a27 a28 a29 a30 (sX10_shout_31 a31 (xs (nI k + (1 : Int32)).toNatClampNeg)) (sX10_shout_32 a31 a32 (xs (nI k + (1 : Int32)).toNatClampNeg)) (sX10_shout_33 a31 a33 (xs (nI k + (1 : Int32)).toNatClampNeg) (1 : Int32)) a34 a35 a36 a37 a38 := by
      have z := e_shout (p0 := (xs (nI k + (1 : Int32)).toNatClampNeg)) (p1 := (1 : Int32)) hE
      exact ⟨z.1, hT, hF, hB, hD, hI, hP, hM, z.2, hK, hS, s0⟩
    refine s_aload_n X (pc := 741) (x := (AD 10 0)) 2 dL_law_741 rfl ?_
    refine s_aload_n X (pc := 742) (x := b) 3 dL_law_742 rfl ?_
    refine s_iload_n X (pc := 743) (x := nI k) 0 dL_law_743 rfl ?_
    refine s_iconst X (pc := 744) (v := 1) dL_law_744 (by decide) ?_
    refine s_iadd X (pc := 745) dL_law_745 ?_
    refine s_sld X (pc := 746) hX hbl (ix5 (j := 1) rfl (by decide) hk hL) dL_law_746 ?_
    refine s_aload_n X (pc := 747) (x := b) 3 dL_law_747 rfl ?_
    refine s_iload_n X (pc := 748) (x := nI k) 0 dL_law_748 rfl ?_
    refine s_iconst X (pc := 749) (v := 2) dL_law_749 (by decide) ?_
    refine s_iadd X (pc := 750) dL_law_750 ?_
    refine s_sld X (pc := 751) hX hbl (ix5 (j := 2) rfl (by decide) hk hL) dL_law_751 ?_
    refine s_if_eq X (pc := 752) (tgt := 759) dL_law_752 (by decide) (fun q => absurd q hbz) (fun _ => ?_)
    refine s_iconst X (pc := 755) (v := 1) dL_law_755 (by decide) ?_
    refine s_goto X (pc := 756) (tgt := 760) dL_law_756 (by decide) ?_
    refine s_callVi0 X (pc := 760) (cells := 68) (slots := 1925) (r := rX9_shout er2 (xs (nI k + (1 : Int32)).toNatClampNeg)) (w := wC G AD (AD 8 0) (AD 9 0) rd0 rd1 rd2 rd3 rd4 dy0 dy1 dy2 dy3 dy4 dy5 pa0 pa1 pa2 im0 im1 im2 pl0 pl1 pl2 pl3 pl4 pl5 pl6 pl7 pl8 er0 er1 er2 bk0 bk1 bk2 dr0 sh0 sh1 sh2 sh3 sh4 sh5 sh6 sh7 sh8 sp0 sp1 sp2 sp3 sp4 sp5 sp6 sp7 sp8 ++ wX10 G ad a0 a1 a2 a3 a4 a5 a6 a7 a8 a9 a10 a11 a12 a13 a14 a15 a16 a17 a18 a19 a20 a21 a22 a23 a24 a25 a26 a27 a28 a29 a30 a31 a32 a33 a34 a35 a36 a37 a38) (n := 2) (st := []) (As := [.int (xs (nI k + (1 : Int32)).toNatClampNeg), .int (1 : Int32)]) (w2 := wC G AD (AD 8 0) (AD 9 0) rd0 rd1 rd2 rd3 rd4 dy0 dy1 dy2 dy3 dy4 dy5 pa0 pa1 pa2 im0 im1 im2 pl0 pl1 pl2 pl3 pl4 pl5 pl6 pl7 pl8 (sX9_shout_o5_0 er0 er2 (xs (nI k + (1 : Int32)).toNatClampNeg)) (sX9_shout_o5_1 er1 er2 (xs (nI k + (1 : Int32)).toNatClampNeg) (1 : Int32)) (sX9_shout_o5_2 er2 (xs (nI k + (1 : Int32)).toNatClampNeg)) bk0 bk1 bk2 dr0 sh0 sh1 sh2 sh3 sh4 sh5 sh6 sh7 sh8 sp0 sp1 sp2 sp3 sp4 sp5 sp6 sp7 sp8 ++ wX10 G ad a0 a1 a2 a3 a4 a5 a6 a7 a8 a9 a10 a11 a12 a13 a14 a15 a16 a17 a18 a19 a20 a21 a22 a23 a24 a25 a26 a27 a28 a29 a30 a31 a32 a33 a34 a35 a36 a37 a38) 2 (ci_fr (List.Perm.refl _) (List.Perm.refl _) [AD 10 0, AD 0 0, AD 0 1, AD 1 0, AD 1 1, AD 1 2, AD 1 3, AD 1 4, AD 1 5, AD 2 0, AD 2 1, AD 3 0, AD 3 1, AD 3 2, AD 3 3, AD 4 0, AD 4 1, AD 4 2, AD 4 3, AD 4 4, AD 4 5, AD 4 6, AD 5 0, AD 5 1, AD 5 2, AD 6 0, AD 6 1, AD 6 2, AD 7 0, AD 8 0, AD 8 1, AD 8 2, AD 8 3, AD 8 4, AD 8 5, AD 8 6, AD 9 0, AD 9 1, AD 9 2, AD 9 3, AD 9 4, AD 9 5, AD 9 6] rfl rfl (c_X9_shout l G AD rd0 rd1 rd2 rd3 rd4 dy0 dy1 dy2 dy3 dy4 dy5 pa0 pa1 pa2 im0 im1 im2 pl0 pl1 pl2 pl3 pl4 pl5 pl6 pl7 pl8 er0 er1 er2 bk0 bk1 bk2 dr0 sh0 sh1 sh2 sh3 sh4 sh5 sh6 sh7 sh8 sp0 sp1 sp2 sp3 sp4 sp5 sp6 sp7 sp8 (xs (nI k + (1 : Int32)).toNatClampNeg) (1 : Int32) (by with_reducible assumption) (by with_reducible assumption) (Or.inr rfl))) gL_law_X9_shout rfl (by decide +kernel) ⟨(Nat.le_of_ble_eq_true rfl), (Nat.le_of_ble_eq_true rfl)⟩ 0 rfl rfl rfl rfl (Nat.le_of_ble_eq_true rfl) (Nat.le_of_ble_eq_true rfl) (Nat.le_of_ble_eq_true rfl) dL_law_760 ?_
    refine s_aload_n X (pc := 763) (x := (ad 0)) 1 dL_law_763 rfl ?_
    refine s_aload_n X (pc := 764) (x := b) 3 dL_law_764 rfl ?_
    refine s_iload_n X (pc := 765) (x := nI k) 0 dL_law_765 rfl ?_
    refine s_iconst X (pc := 766) (v := 1) dL_law_766 (by decide) ?_
    refine s_iadd X (pc := 767) dL_law_767 ?_
    refine s_sld X (pc := 768) hX hbl (ix5 (j := 1) rfl (by decide) hk hL) dL_law_768 ?_
    refine s_aload_n X (pc := 769) (x := b) 3 dL_law_769 rfl ?_
    refine s_iload_n X (pc := 770) (x := nI k) 0 dL_law_770 rfl ?_
    refine s_iconst X (pc := 771) (v := 2) dL_law_771 (by decide) ?_
    refine s_iadd X (pc := 772) dL_law_772 ?_
    refine s_sld X (pc := 773) hX hbl (ix5 (j := 2) rfl (by decide) hk hL) dL_law_773 ?_
    refine s_if_eq X (pc := 774) (tgt := 781) dL_law_774 (by decide) (fun q => absurd q hbz) (fun _ => ?_)
    refine s_iconst X (pc := 777) (v := 1) dL_law_777 (by decide) ?_
    refine s_goto X (pc := 778) (tgt := 782) dL_law_778 (by decide) ?_
    refine s_callVi0 X (pc := 782) (cells := 68) (slots := 1925) (r := rX10_shout a31 (xs (nI k + (1 : Int32)).toNatClampNeg)) (w := wC G AD (AD 8 0) (AD 9 0) rd0 rd1 rd2 rd3 rd4 dy0 dy1 dy2 dy3 dy4 dy5 pa0 pa1 pa2 im0 im1 im2 pl0 pl1 pl2 pl3 pl4 pl5 pl6 pl7 pl8 (sX9_shout_o5_0 er0 er2 (xs (nI k + (1 : Int32)).toNatClampNeg)) (sX9_shout_o5_1 er1 er2 (xs (nI k + (1 : Int32)).toNatClampNeg) (1 : Int32)) (sX9_shout_o5_2 er2 (xs (nI k + (1 : Int32)).toNatClampNeg)) bk0 bk1 bk2 dr0 sh0 sh1 sh2 sh3 sh4 sh5 sh6 sh7 sh8 sp0 sp1 sp2 sp3 sp4 sp5 sp6 sp7 sp8 ++ wX10 G ad a0 a1 a2 a3 a4 a5 a6 a7 a8 a9 a10 a11 a12 a13 a14 a15 a16 a17 a18 a19 a20 a21 a22 a23 a24 a25 a26 a27 a28 a29 a30 a31 a32 a33 a34 a35 a36 a37 a38) (n := 2) (st := [.int (rX9_shout er2 (xs (nI k + (1 : Int32)).toNatClampNeg))]) (As := [.int (xs (nI k + (1 : Int32)).toNatClampNeg), .int (1 : Int32)]) (w2 := wC G AD (AD 8 0) (AD 9 0) rd0 rd1 rd2 rd3 rd4 dy0 dy1 dy2 dy3 dy4 dy5 pa0 pa1 pa2 im0 im1 im2 pl0 pl1 pl2 pl3 pl4 pl5 pl6 pl7 pl8 (sX9_shout_o5_0 er0 er2 (xs (nI k + (1 : Int32)).toNatClampNeg)) (sX9_shout_o5_1 er1 er2 (xs (nI k + (1 : Int32)).toNatClampNeg) (1 : Int32)) (sX9_shout_o5_2 er2 (xs (nI k + (1 : Int32)).toNatClampNeg)) bk0 bk1 bk2 dr0 sh0 sh1 sh2 sh3 sh4 sh5 sh6 sh7 sh8 sp0 sp1 sp2 sp3 sp4 sp5 sp6 sp7 sp8 ++ wX10 G ad a0 a1 a2 a3 a4 a5 a6 a7 a8 a9 a10 a11 a12 a13 a14 a15 a16 a17 a18 a19 a20 a21 a22 a23 a24 a25 a26 a27 a28 a29 a30 (sX10_shout_31 a31 (xs (nI k + (1 : Int32)).toNatClampNeg)) (sX10_shout_32 a31 a32 (xs (nI k + (1 : Int32)).toNatClampNeg)) (sX10_shout_33 a31 a33 (xs (nI k + (1 : Int32)).toNatClampNeg) (1 : Int32)) a34 a35 a36 a37 a38) 1 (ci_fr List.perm_append_comm List.perm_append_comm [ad 0, ad 2, ad 4, ad 6, ad 7, ad 8, ad 9, ad 10, ad 12, ad 19, ad 21, ad 23, ad 24, ad 25, ad 26, ad 28, ad 29, ad 30, ad 31, ad 33, ad 34, ad 36, ad 37, ad 38, ad 39] rfl rfl (c_X10_shout l G ad a0 a1 a2 a3 a4 a5 a6 a7 a8 a9 a10 a11 a12 a13 a14 a15 a16 a17 a18 a19 a20 a21 a22 a23 a24 a25 a26 a27 a28 a29 a30 a31 a32 a33 a34 a35 a36 a37 a38 (xs (nI k + (1 : Int32)).toNatClampNeg) (1 : Int32) (by with_reducible assumption) (by with_reducible assumption) (Or.inr rfl))) gL_law_X10_shout rfl (by decide +kernel) ⟨(Nat.le_of_ble_eq_true rfl), (Nat.le_of_ble_eq_true rfl)⟩ 43 rfl rfl rfl rfl (Nat.le_of_ble_eq_true rfl) (Nat.le_of_ble_eq_true rfl) (Nat.le_of_ble_eq_true rfl) dL_law_782 ?_
    refine s_icmp_eq X (pc := 785) (tgt := 944) dL_law_785 (by decide) (fun cq => ?_) (fun cq => absurd EE.1 cq)
    exact K (AD := AD) EE.2
