set_option maxRecDepth 100000 in
set_option maxHeartbeats 4000000 in
theorem law_bears {p : Program} {l : Launch} {e : Env} {s : State} {m : MethodId} {below : List Frame} {meth : Method} {c : Code} {G : GT} {b L : Nat} {xs : Nat → Int32} (X : Cx p room_1 s m #[Value.ref b] meth c G (fun q : Nat => s.heap.size ≤ q) 4 cL_law wsL_law RL (some .boolean)) (hX : va_X b L xs s s.heap) (hbl : b < s.heap.size) {k : Nat} (hk : k + 5 ≤ L) (hL : L ≤ 320) {AD : Nat → Nat → Nat} {ad : Nat → Nat} {rd0 : Nat → Int32} {rd1 rd2 rd3 rd4 : Int32} {dy0 dy1 dy2 dy3 dy4 : Nat → Int32} {dy5 : Int32} {pa0 : Nat → Int32} {pa1 pa2 : Int32} {im0 im1 im2 pl0 pl1 pl2 pl3 pl4 pl5 : Nat → Int32} {pl6 pl7 pl8 : Int32} {er0 er1 : Nat → Int32} {er2 : Int32} {bk0 bk1 : Nat → Int32} {bk2 dr0 : Int32} {sh0 sh1 sh2 sh3 sh4 sh5 : Nat → Int32} {sh6 sh7 sh8 : Int32} {sp0 sp1 sp2 sp3 sp4 sp5 : Nat → Int32} {sp6 sp7 sp8 a0 : Int32} {a1 : Nat → Int32} {a2 : Int32} {a3 : Nat → Int32} {a4 : Int32} {a5 a6 a7 a8 a9 : Nat → Int32} {a10 : Int32} {a11 : Nat → Int32} {a12 a13 a14 a15 a16 a17 : Int32} {a18 : Nat → Int32} {a19 : Int32} {a20 : Nat → Int32} {a21 : Int32} {a22 a23 a24 a25 : Nat → Int32} {a26 : Int32} {a27 a28 a29 a30 : Nat → Int32} {a31 : Int32} {a32 a33 : Nat → Int32} {a34 : Int32} {a35 a36 a37 a38 : Nat → Int32} (hRel : Rel rd0 rd1 rd2 rd3 rd4 dy0 dy1 dy2 dy3 dy4 dy5 pa0 pa1 pa2 im0 im1 im2 pl0 pl1 pl2 pl3 pl4 pl5 pl6 pl7 pl8 er0 er1 er2 bk0 bk1 bk2 dr0 sh0 sh1 sh2 sh3 sh4 sh5 sh6 sh7 sh8 sp0 sp1 sp2 sp3 sp4 sp5 sp6 sp7 sp8 a0 a1 a2 a3 a4 a5 a6 a7 a8 a9 a10 a11 a12 a13 a14 a15 a16 a17 a18 a19 a20 a21 a22 a23 a24 a25 a26 a27 a28 a29 a30 a31 a32 a33 a34 a35 a36 a37 a38) (K : ∀ {AD : Nat → Nat → Nat} {rd0 : Nat → Int32} {rd1 rd2 rd3 rd4 : Int32} {dy0 dy1 dy2 dy3 dy4 : Nat → Int32} {dy5 : Int32} {pa0 : Nat → Int32} {pa1 pa2 : Int32} {im0 im1 im2 pl0 pl1 pl2 pl3 pl4 pl5 : Nat → Int32} {pl6 pl7 pl8 : Int32} {er0 er1 : Nat → Int32} {er2 : Int32} {bk0 bk1 : Nat → Int32} {bk2 dr0 : Int32} {sh0 sh1 sh2 sh3 sh4 sh5 : Nat → Int32} {sh6 sh7 sh8 : Int32} {sp0 sp1 sp2 sp3 sp4 sp5 : Nat → Int32} {sp6 sp7 sp8 a0 : Int32} {a1 : Nat → Int32} {a2 : Int32} {a3 : Nat → Int32} {a4 : Int32} {a5 a6 a7 a8 a9 : Nat → Int32} {a10 : Int32} {a11 : Nat → Int32} {a12 a13 a14 a15 a16 a17 : Int32} {a18 : Nat → Int32} {a19 : Int32} {a20 : Nat → Int32} {a21 : Int32} {a22 a23 a24 a25 : Nat → Int32} {a26 : Int32} {a27 a28 a29 a30 : Nat → Int32} {a31 : Int32} {a32 a33 : Nat → Int32} {a34 : Int32} {a35 a36 a37 a38 : Nat → Int32}, Rel rd0 rd1 rd2 rd3 rd4 dy0 dy1 dy2 dy3 dy4 dy5 pa0 pa1 pa2 im0 im1 im2 pl0 pl1 pl2 pl3 pl4 pl5 pl6 pl7 pl8 er0 er1 er2 bk0 bk1 bk2 dr0 sh0 sh1 sh2 sh3 sh4 sh5 sh6 sh7 sh8 sp0 sp1 sp2 sp3 sp4 sp5 sp6 sp7 sp8 a0 a1 a2 a3 a4 a5 a6 a7 a8 a9 a10 a11 a12 a13 a14 a15 a16 a17 a18 a19 a20 a21 a22 a23 a24 a25 a26 a27 a28 a29 a30 a31 a32 a33 a34 a35 a36 a37 a38 → Sm p l e room_1 s m #[Value.ref b] below meth c G (fun q : Nat => s.heap.size ≤ q) 4 68 1925 (lw_Z below #[Value.ref b] s) 944 [(3, .int (nI k)), (2, .ref (ad 0)), (1, .ref (AD 10 0)), (0, .ref b)] [] (wC G AD (AD 8 0) (AD 9 0) rd0 rd1 rd2 rd3 rd4 dy0 dy1 dy2 dy3 dy4 dy5 pa0 pa1 pa2 im0 im1 im2 pl0 pl1 pl2 pl3 pl4 pl5 pl6 pl7 pl8 er0 er1 er2 bk0 bk1 bk2 dr0 sh0 sh1 sh2 sh3 sh4 sh5 sh6 sh7 sh8 sp0 sp1 sp2 sp3 sp4 sp5 sp6 sp7 sp8 ++ wX10 G ad a0 a1 a2 a3 a4 a5 a6 a7 a8 a9 a10 a11 a12 a13 a14 a15 a16 a17 a18 a19 a20 a21 a22 a23 a24 a25 a26 a27 a28 a29 a30 a31 a32 a33 a34 a35 a36 a37 a38)) : Sm p l e room_1 s m #[Value.ref b] below meth c G (fun q : Nat => s.heap.size ≤ q) 4 68 1925 (lw_Z below #[Value.ref b] s) 790 [(3, .int (nI k)), (2, .ref (ad 0)), (1, .ref (AD 10 0)), (0, .ref b)] [] (wC G AD (AD 8 0) (AD 9 0) rd0 rd1 rd2 rd3 rd4 dy0 dy1 dy2 dy3 dy4 dy5 pa0 pa1 pa2 im0 im1 im2 pl0 pl1 pl2 pl3 pl4 pl5 pl6 pl7 pl8 er0 er1 er2 bk0 bk1 bk2 dr0 sh0 sh1 sh2 sh3 sh4 sh5 sh6 sh7 sh8 sp0 sp1 sp2 sp3 sp4 sp5 sp6 sp7 sp8 ++ wX10 G ad a0 a1 a2 a3 a4 a5 a6 a7 a8 a9 a10 a11 a12 a13 a14 a15 a16 a17 a18 a19 a20 a21 a22 a23 a24 a25 a26 a27 a28 a29 a30 a31 a32 a33 a34 a35 a36 a37 a38) := by
  obtain ⟨hT, hF, hB, hD, hI, hP, hM, hE, hK, hS, s0⟩ := hRel
  have k_t0 : 0 ≤ a0 := hB.2.1.1
  have k_t12 : a0 ≤ 12 := hB.2.1.2
  have k_h0 : 0 ≤ a2 := hB.2.2.1.1
  have k_h4 : a2 ≤ 4 := hB.2.2.1.2
  have k_ca : 0 ≤ a4 := hB.2.2.2.1.1
  have k_cb : a4 ≤ 5 := hB.2.2.2.1.2
  have k_th : 0 < a2 → 0 < a0 := hB.2.2.2.2.1
  have k_tc : 0 < a4 → 0 < a0 := hB.2.2.2.2.2.1
  have c_t12 : sh6 ≤ 12 := by rw [hB.1.1]; exact k_t12
  have c_h0 : 0 ≤ sh7 := by rw [hB.1.2.1]; exact k_h0
  have c_h4 : sh7 ≤ 4 := by rw [hB.1.2.1]; exact k_h4
  have c_ca : 0 ≤ sh8 := by rw [hB.1.2.2]; exact k_ca
  have c_cb : sh8 ≤ 5 := by rw [hB.1.2.2]; exact k_cb
  have hc5 := clampLe (n := 5) (b := 5) rfl k_ca k_cb
  have k_n0 : 0 ≤ a9 22 := hI.1.1
  have k_n9 : a9 22 ≤ 9060 := Int32.le_iff_toInt_le.mpr hI.1.2
  have k_NI : NI 9060 a9 := DI_NI hc5 hI
  have k_u0 : 0 ≤ a26 := hP.2.1
  have k_u20 : a26 ≤ 20 := hP.2.2.1
  have c_u0 : 0 ≤ pa1 := hP.2.2.2.1
  have c_u20 : pa1 < 20 := hP.2.2.2.2.1
  have k_x0 : 0 ≤ a12 := hT.2.1
  have k_x240 : a12 ≤ 240 := hT.2.2.1
  have c_x0 : 0 ≤ rd2 := by rw [hT.1]; exact k_x0
  have c_x240 : rd2 ≤ 240 := by rw [hT.1]; exact k_x240
  have k_e0 : 0 ≤ a31 := hE.2.1
  have k_e6 : a31 ≤ 6 := hE.2.2.1
  have c_e0 : 0 ≤ er2 := by rw [hE.1]; exact k_e0
  have c_e6 : er2 ≤ 6 := by rw [hE.1]; exact k_e6
  have k_b0 : 0 ≤ a34 := hK.2.1
  have k_b15 : a34 ≤ 15 := hK.2.2.1
  have c_b0 : 0 ≤ bk2 := by rw [hK.1]; exact k_b0
  have c_b15 : bk2 ≤ 15 := by rw [hK.1]; exact k_b15
  have k_bk : ∀ j : Nat, j < a34.toNatClampNeg → vp_in (a35 j) 5 := fun j hj => by
    have z := hK.2.2.2 j hj
    rw [cl_nI _ z.2.2.1]
    exact vp_in_nI (by omega) (by decide)
  have c_bk : ∀ j : Nat, j < bk2.toNatClampNeg → vp_in (bk0 j) 5 := fun j hj => by
    rw [hK.1] at hj
    rw [(hK.2.2.2 j hj).1]
    exact k_bk j hj
  have c_hL : ∀ j : Nat, j < 5 → ¬ rX0_hasCase sh8 (nI j) = 0 → 1 ≤ sh3 j ∧ sh3 j ≤ 4 := fun j h5 hj => hL_of hB h5 hj
  have EE : rX9_bears er0 er1 er2 = rX10_bears a31 a32 a33 ∧ Rel rd0 rd1 rd2 rd3 rd4 dy0 dy1 dy2 dy3 dy4 dy5 pa0 pa1 pa2 im0 im1 im2 pl0 pl1 pl2 pl3 pl4 pl5 pl6 pl7 pl8 er0 er1 er2 bk0 bk1 bk2 dr0 sh0 sh1 sh2 sh3 sh4 sh5 sh6 sh7 sh8 sp0 sp1 sp2 sp3 sp4 sp5 sp6 sp7 sp8 a0 a1 a2 a3 a4 a5 a6 a7 a8 a9 a10 a11 a12 a13 a14 a15 a16 a17 a18 a19 a20 a21 a22 a23 a24 a25 a26 a27 a28 a29 a30 a31 a32 a33 a34 a35 a36 a37 a38 := by
    exact ⟨e_bears hE, hT, hF, hB, hD, hI, hP, hM, hE, hK, hS, s0⟩
  refine s_aload_n X (pc := 790) (x := (AD 10 0)) 2 dL_law_790 rfl ?_
  refine s_callVi0 X (pc := 791) (cells := 68) (slots := 1925) (r := rX9_bears er0 er1 er2) (w := wC G AD (AD 8 0) (AD 9 0) rd0 rd1 rd2 rd3 rd4 dy0 dy1 dy2 dy3 dy4 dy5 pa0 pa1 pa2 im0 im1 im2 pl0 pl1 pl2 pl3 pl4 pl5 pl6 pl7 pl8 er0 er1 er2 bk0 bk1 bk2 dr0 sh0 sh1 sh2 sh3 sh4 sh5 sh6 sh7 sh8 sp0 sp1 sp2 sp3 sp4 sp5 sp6 sp7 sp8 ++ wX10 G ad a0 a1 a2 a3 a4 a5 a6 a7 a8 a9 a10 a11 a12 a13 a14 a15 a16 a17 a18 a19 a20 a21 a22 a23 a24 a25 a26 a27 a28 a29 a30 a31 a32 a33 a34 a35 a36 a37 a38) (n := 0) (st := []) (As := []) (w2 := wC G AD (AD 8 0) (AD 9 0) rd0 rd1 rd2 rd3 rd4 dy0 dy1 dy2 dy3 dy4 dy5 pa0 pa1 pa2 im0 im1 im2 pl0 pl1 pl2 pl3 pl4 pl5 pl6 pl7 pl8 er0 er1 er2 bk0 bk1 bk2 dr0 sh0 sh1 sh2 sh3 sh4 sh5 sh6 sh7 sh8 sp0 sp1 sp2 sp3 sp4 sp5 sp6 sp7 sp8 ++ wX10 G ad a0 a1 a2 a3 a4 a5 a6 a7 a8 a9 a10 a11 a12 a13 a14 a15 a16 a17 a18 a19 a20 a21 a22 a23 a24 a25 a26 a27 a28 a29 a30 a31 a32 a33 a34 a35 a36 a37 a38) 2 (ci_fr (List.Perm.refl _) (List.Perm.refl _) [AD 10 0, AD 0 0, AD 0 1, AD 1 0, AD 1 1, AD 1 2, AD 1 3, AD 1 4, AD 1 5, AD 2 0, AD 2 1, AD 3 0, AD 3 1, AD 3 2, AD 3 3, AD 4 0, AD 4 1, AD 4 2, AD 4 3, AD 4 4, AD 4 5, AD 4 6, AD 5 0, AD 5 1, AD 5 2, AD 6 0, AD 6 1, AD 6 2, AD 7 0, AD 8 0, AD 8 1, AD 8 2, AD 8 3, AD 8 4, AD 8 5, AD 8 6, AD 9 0, AD 9 1, AD 9 2, AD 9 3, AD 9 4, AD 9 5, AD 9 6] rfl rfl (c_X9_bears l G AD rd0 rd1 rd2 rd3 rd4 dy0 dy1 dy2 dy3 dy4 dy5 pa0 pa1 pa2 im0 im1 im2 pl0 pl1 pl2 pl3 pl4 pl5 pl6 pl7 pl8 er0 er1 er2 bk0 bk1 bk2 dr0 sh0 sh1 sh2 sh3 sh4 sh5 sh6 sh7 sh8 sp0 sp1 sp2 sp3 sp4 sp5 sp6 sp7 sp8 (by with_reducible assumption) (by with_reducible assumption))) gL_law_X9_bears rfl (by decide +kernel) ⟨(Nat.le_of_ble_eq_true rfl), (Nat.le_of_ble_eq_true rfl)⟩ 0 rfl rfl rfl rfl (Nat.le_of_ble_eq_true rfl) (Nat.le_of_ble_eq_true rfl) (Nat.le_of_ble_eq_true rfl) dL_law_791 ?_
  refine s_aload_n X (pc := 794) (x := (ad 0)) 1 dL_law_794 rfl ?_
  refine s_callVi0 X (pc := 795) (cells := 68) (slots := 1925) (r := rX10_bears a31 a32 a33) (w := wC G AD (AD 8 0) (AD 9 0) rd0 rd1 rd2 rd3 rd4 dy0 dy1 dy2 dy3 dy4 dy5 pa0 pa1 pa2 im0 im1 im2 pl0 pl1 pl2 pl3 pl4 pl5 pl6 pl7 pl8 er0 er1 er2 bk0 bk1 bk2 dr0 sh0 sh1 sh2 sh3 sh4 sh5 sh6 sh7 sh8 sp0 sp1 sp2 sp3 sp4 sp5 sp6 sp7 sp8 ++ wX10 G ad a0 a1 a2 a3 a4 a5 a6 a7 a8 a9 a10 a11 a12 a13 a14 a15 a16 a17 a18 a19 a20 a21 a22 a23 a24 a25 a26 a27 a28 a29 a30 a31 a32 a33 a34 a35 a36 a37 a38) (n := 0) (st := [.int (rX9_bears er0 er1 er2)]) (As := []) (w2 := wC G AD (AD 8 0) (AD 9 0) rd0 rd1 rd2 rd3 rd4 dy0 dy1 dy2 dy3 dy4 dy5 pa0 pa1 pa2 im0 im1 im2 pl0 pl1 pl2 pl3 pl4 pl5 pl6 pl7 pl8 er0 er1 er2 bk0 bk1 bk2 dr0 sh0 sh1 sh2 sh3 sh4 sh5 sh6 sh7 sh8 sp0 sp1 sp2 sp3 sp4 sp5 sp6 sp7 sp8 ++ wX10 G ad a0 a1 a2 a3 a4 a5 a6 a7 a8 a9 a10 a11 a12 a13 a14 a15 a16 a17 a18 a19 a20 a21 a22 a23 a24 a25 a26 a27 a28 a29 a30 a31 a32 a33 a34 a35 a36 a37 a38) 1 (ci_fr List.perm_append_comm List.perm_append_comm [ad 0, ad 2, ad 4, ad 6, ad 7, ad 8, ad 9, ad 10, ad 12, ad 19, ad 21, ad 23, ad 24, ad 25, ad 26, ad 28, ad 29, ad 30, ad 31, ad 33, ad 34, ad 36, ad 37, ad 38, ad 39] rfl rfl (c_X10_bears l G ad a0 a1 a2 a3 a4 a5 a6 a7 a8 a9 a10 a11 a12 a13 a14 a15 a16 a17 a18 a19 a20 a21 a22 a23 a24 a25 a26 a27 a28 a29 a30 a31 a32 a33 a34 a35 a36 a37 a38 (by with_reducible assumption) (by with_reducible assumption))) gL_law_X10_bears rfl (by decide +kernel) ⟨(Nat.le_of_ble_eq_true rfl), (Nat.le_of_ble_eq_true rfl)⟩ 43 rfl rfl rfl rfl (Nat.le_of_ble_eq_true rfl) (Nat.le_of_ble_eq_true rfl) (Nat.le_of_ble_eq_true rfl) dL_law_795 ?_
  refine s_icmp_eq X (pc := 798) (tgt := 944) dL_law_798 (by decide) (fun cq => ?_) (fun cq => absurd EE.1 cq)
  exact K (AD := AD) EE.2

set_option maxRecDepth 100000 in
set_option maxHeartbeats 4000000 in
theorem law_listen {p : Program} {l : Launch} {e : Env} {s : State} {m : MethodId} {below : List Frame} {meth : Method} {c : Code} {G : GT} {b L : Nat} {xs : Nat → Int32} (X : Cx p room_1 s m #[Value.ref b] meth c G (fun q : Nat => s.heap.size ≤ q) 4 cL_law wsL_law RL (some .boolean)) (hX : va_X b L xs s s.heap) (hbl : b < s.heap.size) {k : Nat} (hk : k + 5 ≤ L) (hL : L ≤ 320) {AD : Nat → Nat → Nat} {ad : Nat → Nat} {rd0 : Nat → Int32} {rd1 rd2 rd3 rd4 : Int32} {dy0 dy1 dy2 dy3 dy4 : Nat → Int32} {dy5 : Int32} {pa0 : Nat → Int32} {pa1 pa2 : Int32} {im0 im1 im2 pl0 pl1 pl2 pl3 pl4 pl5 : Nat → Int32} {pl6 pl7 pl8 : Int32} {er0 er1 : Nat → Int32} {er2 : Int32} {bk0 bk1 : Nat → Int32} {bk2 dr0 : Int32} {sh0 sh1 sh2 sh3 sh4 sh5 : Nat → Int32} {sh6 sh7 sh8 : Int32} {sp0 sp1 sp2 sp3 sp4 sp5 : Nat → Int32} {sp6 sp7 sp8 a0 : Int32} {a1 : Nat → Int32} {a2 : Int32} {a3 : Nat → Int32} {a4 : Int32} {a5 a6 a7 a8 a9 : Nat → Int32} {a10 : Int32} {a11 : Nat → Int32} {a12 a13 a14 a15 a16 a17 : Int32} {a18 : Nat → Int32} {a19 : Int32} {a20 : Nat → Int32} {a21 : Int32} {a22 a23 a24 a25 : Nat → Int32} {a26 : Int32} {a27 a28 a29 a30 : Nat → Int32} {a31 : Int32} {a32 a33 : Nat → Int32} {a34 : Int32} {a35 a36 a37 a38 : Nat → Int32} (hRel : Rel rd0 rd1 rd2 rd3 rd4 dy0 dy1 dy2 dy3 dy4 dy5 pa0 pa1 pa2 im0 im1 im2 pl0 pl1 pl2 pl3 pl4 pl5 pl6 pl7 pl8 er0 er1 er2 bk0 bk1 bk2 dr0 sh0 sh1 sh2 sh3 sh4 sh5 sh6 sh7 sh8 sp0 sp1 sp2 sp3 sp4 sp5 sp6 sp7 sp8 a0 a1 a2 a3 a4 a5 a6 a7 a8 a9 a10 a11 a12 a13 a14 a15 a16 a17 a18 a19 a20 a21 a22 a23 a24 a25 a26 a27 a28 a29 a30 a31 a32 a33 a34 a35 a36 a37 a38) (K : ∀ {AD : Nat → Nat → Nat} {rd0 : Nat → Int32} {rd1 rd2 rd3 rd4 : Int32} {dy0 dy1 dy2 dy3 dy4 : Nat → Int32} {dy5 : Int32} {pa0 : Nat → Int32} {pa1 pa2 : Int32} {im0 im1 im2 pl0 pl1 pl2 pl3 pl4 pl5 : Nat → Int32} {pl6 pl7 pl8 : Int32} {er0 er1 : Nat → Int32} {er2 : Int32} {bk0 bk1 : Nat → Int32} {bk2 dr0 : Int32} {sh0 sh1 sh2 sh3 sh4 sh5 : Nat → Int32} {sh6 sh7 sh8 : Int32} {sp0 sp1 sp2 sp3 sp4 sp5 : Nat → Int32} {sp6 sp7 sp8 a0 : Int32} {a1 : Nat → Int32} {a2 : Int32} {a3 : Nat → Int32} {a4 : Int32} {a5 a6 a7 a8 a9 : Nat → Int32} {a10 : Int32} {a11 : Nat → Int32} {a12 a13 a14 a15 a16 a17 : Int32} {a18 : Nat → Int32} {a19 : Int32} {a20 : Nat → Int32} {a21 : Int32} {a22 a23 a24 a25 : Nat → Int32} {a26 : Int32} {a27 a28 a29 a30 : Nat → Int32} {a31 : Int32} {a32 a33 : Nat → Int32} {a34 : Int32} {a35 a36 a37 a38 : Nat → Int32}, Rel rd0 rd1 rd2 rd3 rd4 dy0 dy1 dy2 dy3 dy4 dy5 pa0 pa1 pa2 im0 im1 im2 pl0 pl1 pl2 pl3 pl4 pl5 pl6 pl7 pl8 er0 er1 er2 bk0 bk1 bk2 dr0 sh0 sh1 sh2 sh3 sh4 sh5 sh6 sh7 sh8 sp0 sp1 sp2 sp3 sp4 sp5 sp6 sp7 sp8 a0 a1 a2 a3 a4 a5 a6 a7 a8 a9 a10 a11 a12 a13 a14 a15 a16 a17 a18 a19 a20 a21 a22 a23 a24 a25 a26 a27 a28 a29 a30 a31 a32 a33 a34 a35 a36 a37 a38 → Sm p l e room_1 s m #[Value.ref b] below meth c G (fun q : Nat => s.heap.size ≤ q) 4 68 1925 (lw_Z below #[Value.ref b] s) 944 [(3, .int (nI k)), (2, .ref (ad 0)), (1, .ref (AD 10 0)), (0, .ref b)] [] (wC G AD (AD 8 0) (AD 9 0) rd0 rd1 rd2 rd3 rd4 dy0 dy1 dy2 dy3 dy4 dy5 pa0 pa1 pa2 im0 im1 im2 pl0 pl1 pl2 pl3 pl4 pl5 pl6 pl7 pl8 er0 er1 er2 bk0 bk1 bk2 dr0 sh0 sh1 sh2 sh3 sh4 sh5 sh6 sh7 sh8 sp0 sp1 sp2 sp3 sp4 sp5 sp6 sp7 sp8 ++ wX10 G ad a0 a1 a2 a3 a4 a5 a6 a7 a8 a9 a10 a11 a12 a13 a14 a15 a16 a17 a18 a19 a20 a21 a22 a23 a24 a25 a26 a27 a28 a29 a30 a31 a32 a33 a34 a35 a36 a37 a38)) : Sm p l e room_1 s m #[Value.ref b] below meth c G (fun q : Nat => s.heap.size ≤ q) 4 68 1925 (lw_Z below #[Value.ref b] s) 803 [(3, .int (nI k)), (2, .ref (ad 0)), (1, .ref (AD 10 0)), (0, .ref b)] [] (wC G AD (AD 8 0) (AD 9 0) rd0 rd1 rd2 rd3 rd4 dy0 dy1 dy2 dy3 dy4 dy5 pa0 pa1 pa2 im0 im1 im2 pl0 pl1 pl2 pl3 pl4 pl5 pl6 pl7 pl8 er0 er1 er2 bk0 bk1 bk2 dr0 sh0 sh1 sh2 sh3 sh4 sh5 sh6 sh7 sh8 sp0 sp1 sp2 sp3 sp4 sp5 sp6 sp7 sp8 ++ wX10 G ad a0 a1 a2 a3 a4 a5 a6 a7 a8 a9 a10 a11 a12 a13 a14 a15 a16 a17 a18 a19 a20 a21 a22 a23 a24 a25 a26 a27 a28 a29 a30 a31 a32 a33 a34 a35 a36 a37 a38) := by
  obtain ⟨hT, hF, hB, hD, hI, hP, hM, hE, hK, hS, s0⟩ := hRel
  have k_t0 : 0 ≤ a0 := hB.2.1.1
  have k_t12 : a0 ≤ 12 := hB.2.1.2
  have k_h0 : 0 ≤ a2 := hB.2.2.1.1
  have k_h4 : a2 ≤ 4 := hB.2.2.1.2
  have k_ca : 0 ≤ a4 := hB.2.2.2.1.1
  have k_cb : a4 ≤ 5 := hB.2.2.2.1.2
  have k_th : 0 < a2 → 0 < a0 := hB.2.2.2.2.1
  have k_tc : 0 < a4 → 0 < a0 := hB.2.2.2.2.2.1
  have c_t12 : sh6 ≤ 12 := by rw [hB.1.1]; exact k_t12
  have c_h0 : 0 ≤ sh7 := by rw [hB.1.2.1]; exact k_h0
  have c_h4 : sh7 ≤ 4 := by rw [hB.1.2.1]; exact k_h4
  have c_ca : 0 ≤ sh8 := by rw [hB.1.2.2]; exact k_ca
  have c_cb : sh8 ≤ 5 := by rw [hB.1.2.2]; exact k_cb
  have hc5 := clampLe (n := 5) (b := 5) rfl k_ca k_cb
  have k_n0 : 0 ≤ a9 22 := hI.1.1
  have k_n9 : a9 22 ≤ 9060 := Int32.le_iff_toInt_le.mpr hI.1.2
  have k_NI : NI 9060 a9 := DI_NI hc5 hI
  have k_u0 : 0 ≤ a26 := hP.2.1
  have k_u20 : a26 ≤ 20 := hP.2.2.1
  have c_u0 : 0 ≤ pa1 := hP.2.2.2.1
  have c_u20 : pa1 < 20 := hP.2.2.2.2.1
  have k_x0 : 0 ≤ a12 := hT.2.1
  have k_x240 : a12 ≤ 240 := hT.2.2.1
  have c_x0 : 0 ≤ rd2 := by rw [hT.1]; exact k_x0
  have c_x240 : rd2 ≤ 240 := by rw [hT.1]; exact k_x240
  have k_e0 : 0 ≤ a31 := hE.2.1
  have k_e6 : a31 ≤ 6 := hE.2.2.1
  have c_e0 : 0 ≤ er2 := by rw [hE.1]; exact k_e0
  have c_e6 : er2 ≤ 6 := by rw [hE.1]; exact k_e6
  have k_b0 : 0 ≤ a34 := hK.2.1
  have k_b15 : a34 ≤ 15 := hK.2.2.1
  have c_b0 : 0 ≤ bk2 := by rw [hK.1]; exact k_b0
  have c_b15 : bk2 ≤ 15 := by rw [hK.1]; exact k_b15
  have k_bk : ∀ j : Nat, j < a34.toNatClampNeg → vp_in (a35 j) 5 := fun j hj => by
    have z := hK.2.2.2 j hj
    rw [cl_nI _ z.2.2.1]
    exact vp_in_nI (by omega) (by decide)
  have c_bk : ∀ j : Nat, j < bk2.toNatClampNeg → vp_in (bk0 j) 5 := fun j hj => by
    rw [hK.1] at hj
    rw [(hK.2.2.2 j hj).1]
    exact k_bk j hj
  have c_hL : ∀ j : Nat, j < 5 → ¬ rX0_hasCase sh8 (nI j) = 0 → 1 ≤ sh3 j ∧ sh3 j ≤ 4 := fun j h5 hj => hL_of hB h5 hj
  have EE : rX9_listen er0 er1 er2 = rX10_listen a31 a32 a33 ∧ Rel rd0 rd1 rd2 rd3 rd4 dy0 dy1 dy2 dy3 dy4 dy5 pa0 pa1 pa2 im0 im1 im2 pl0 pl1 pl2 pl3 pl4 pl5 pl6 pl7 pl8 er0 er1 er2 bk0 bk1 bk2 dr0 sh0 sh1 sh2 sh3 sh4 sh5 sh6 sh7 sh8 sp0 sp1 sp2 sp3 sp4 sp5 sp6 sp7 sp8 a0 a1 a2 a3 a4 a5 a6 a7 a8 a9 a10 a11 a12 a13 a14 a15 a16 a17 a18 a19 a20 a21 a22 a23 a24 a25 a26 a27 a28 a29 a30 a31 a32 a33 a34 a35 a36 a37 a38 := by
    exact ⟨e_listen hE, hT, hF, hB, hD, hI, hP, hM, hE, hK, hS, s0⟩
  refine s_aload_n X (pc := 803) (x := (AD 10 0)) 2 dL_law_803 rfl ?_
  refine s_callVi0 X (pc := 804) (cells := 68) (slots := 1925) (r := rX9_listen er0 er1 er2) (w := wC G AD (AD 8 0) (AD 9 0) rd0 rd1 rd2 rd3 rd4 dy0 dy1 dy2 dy3 dy4 dy5 pa0 pa1 pa2 im0 im1 im2 pl0 pl1 pl2 pl3 pl4 pl5 pl6 pl7 pl8 er0 er1 er2 bk0 bk1 bk2 dr0 sh0 sh1 sh2 sh3 sh4 sh5 sh6 sh7 sh8 sp0 sp1 sp2 sp3 sp4 sp5 sp6 sp7 sp8 ++ wX10 G ad a0 a1 a2 a3 a4 a5 a6 a7 a8 a9 a10 a11 a12 a13 a14 a15 a16 a17 a18 a19 a20 a21 a22 a23 a24 a25 a26 a27 a28 a29 a30 a31 a32 a33 a34 a35 a36 a37 a38) (n := 0) (st := []) (As := []) (w2 := wC G AD (AD 8 0) (AD 9 0) rd0 rd1 rd2 rd3 rd4 dy0 dy1 dy2 dy3 dy4 dy5 pa0 pa1 pa2 im0 im1 im2 pl0 pl1 pl2 pl3 pl4 pl5 pl6 pl7 pl8 er0 er1 er2 bk0 bk1 bk2 dr0 sh0 sh1 sh2 sh3 sh4 sh5 sh6 sh7 sh8 sp0 sp1 sp2 sp3 sp4 sp5 sp6 sp7 sp8 ++ wX10 G ad a0 a1 a2 a3 a4 a5 a6 a7 a8 a9 a10 a11 a12 a13 a14 a15 a16 a17 a18 a19 a20 a21 a22 a23 a24 a25 a26 a27 a28 a29 a30 a31 a32 a33 a34 a35 a36 a37 a38) 3 (ci_fr (List.Perm.refl _) (List.Perm.refl _) [AD 10 0, AD 0 0, AD 0 1, AD 1 0, AD 1 1, AD 1 2, AD 1 3, AD 1 4, AD 1 5, AD 2 0, AD 2 1, AD 3 0, AD 3 1, AD 3 2, AD 3 3, AD 4 0, AD 4 1, AD 4 2, AD 4 3, AD 4 4, AD 4 5, AD 4 6, AD 5 0, AD 5 1, AD 5 2, AD 6 0, AD 6 1, AD 6 2, AD 7 0, AD 8 0, AD 8 1, AD 8 2, AD 8 3, AD 8 4, AD 8 5, AD 8 6, AD 9 0, AD 9 1, AD 9 2, AD 9 3, AD 9 4, AD 9 5, AD 9 6] rfl rfl (c_X9_listen l G AD rd0 rd1 rd2 rd3 rd4 dy0 dy1 dy2 dy3 dy4 dy5 pa0 pa1 pa2 im0 im1 im2 pl0 pl1 pl2 pl3 pl4 pl5 pl6 pl7 pl8 er0 er1 er2 bk0 bk1 bk2 dr0 sh0 sh1 sh2 sh3 sh4 sh5 sh6 sh7 sh8 sp0 sp1 sp2 sp3 sp4 sp5 sp6 sp7 sp8 (by with_reducible assumption) (by with_reducible assumption))) gL_law_X9_listen rfl (by decide +kernel) ⟨(Nat.le_of_ble_eq_true rfl), (Nat.le_of_ble_eq_true rfl)⟩ 0 rfl rfl rfl rfl (Nat.le_of_ble_eq_true rfl) (Nat.le_of_ble_eq_true rfl) (Nat.le_of_ble_eq_true rfl) dL_law_804 ?_
  refine s_aload_n X (pc := 807) (x := (ad 0)) 1 dL_law_807 rfl ?_
  refine s_callVi0 X (pc := 808) (cells := 68) (slots := 1925) (r := rX10_listen a31 a32 a33) (w := wC G AD (AD 8 0) (AD 9 0) rd0 rd1 rd2 rd3 rd4 dy0 dy1 dy2 dy3 dy4 dy5 pa0 pa1 pa2 im0 im1 im2 pl0 pl1 pl2 pl3 pl4 pl5 pl6 pl7 pl8 er0 er1 er2 bk0 bk1 bk2 dr0 sh0 sh1 sh2 sh3 sh4 sh5 sh6 sh7 sh8 sp0 sp1 sp2 sp3 sp4 sp5 sp6 sp7 sp8 ++ wX10 G ad a0 a1 a2 a3 a4 a5 a6 a7 a8 a9 a10 a11 a12 a13 a14 a15 a16 a17 a18 a19 a20 a21 a22 a23 a24 a25 a26 a27 a28 a29 a30 a31 a32 a33 a34 a35 a36 a37 a38) (n := 0) (st := [.int (rX9_listen er0 er1 er2)]) (As := []) (w2 := wC G AD (AD 8 0) (AD 9 0) rd0 rd1 rd2 rd3 rd4 dy0 dy1 dy2 dy3 dy4 dy5 pa0 pa1 pa2 im0 im1 im2 pl0 pl1 pl2 pl3 pl4 pl5 pl6 pl7 pl8 er0 er1 er2 bk0 bk1 bk2 dr0 sh0 sh1 sh2 sh3 sh4 sh5 sh6 sh7 sh8 sp0 sp1 sp2 sp3 sp4 sp5 sp6 sp7 sp8 ++ wX10 G ad a0 a1 a2 a3 a4 a5 a6 a7 a8 a9 a10 a11 a12 a13 a14 a15 a16 a17 a18 a19 a20 a21 a22 a23 a24 a25 a26 a27 a28 a29 a30 a31 a32 a33 a34 a35 a36 a37 a38) 1 (ci_fr List.perm_append_comm List.perm_append_comm [ad 0, ad 2, ad 4, ad 6, ad 7, ad 8, ad 9, ad 10, ad 12, ad 19, ad 21, ad 23, ad 24, ad 25, ad 26, ad 28, ad 29, ad 30, ad 31, ad 33, ad 34, ad 36, ad 37, ad 38, ad 39] rfl rfl (c_X10_listen l G ad a0 a1 a2 a3 a4 a5 a6 a7 a8 a9 a10 a11 a12 a13 a14 a15 a16 a17 a18 a19 a20 a21 a22 a23 a24 a25 a26 a27 a28 a29 a30 a31 a32 a33 a34 a35 a36 a37 a38 (by with_reducible assumption) (by with_reducible assumption))) gL_law_X10_listen rfl (by decide +kernel) ⟨(Nat.le_of_ble_eq_true rfl), (Nat.le_of_ble_eq_true rfl)⟩ 43 rfl rfl rfl rfl (Nat.le_of_ble_eq_true rfl) (Nat.le_of_ble_eq_true rfl) (Nat.le_of_ble_eq_true rfl) dL_law_808 ?_
  refine s_icmp_eq X (pc := 811) (tgt := 944) dL_law_811 (by decide) (fun cq => ?_) (fun cq => absurd EE.1 cq)
  exact K (AD := AD) EE.2

set_option maxRecDepth 100000 in
set_option maxHeartbeats 4000000 in
theorem law_write {p : Program} {l : Launch} {e : Env} {s : State} {m : MethodId} {below : List Frame} {meth : Method} {c : Code} {G : GT} {b L : Nat} {xs : Nat → Int32} (X : Cx p room_1 s m #[Value.ref b] meth c G (fun q : Nat => s.heap.size ≤ q) 4 cL_law wsL_law RL (some .boolean)) (hX : va_X b L xs s s.heap) (hbl : b < s.heap.size) {k : Nat} (hk : k + 5 ≤ L) (hL : L ≤ 320) {AD : Nat → Nat → Nat} {ad : Nat → Nat} {rd0 : Nat → Int32} {rd1 rd2 rd3 rd4 : Int32} {dy0 dy1 dy2 dy3 dy4 : Nat → Int32} {dy5 : Int32} {pa0 : Nat → Int32} {pa1 pa2 : Int32} {im0 im1 im2 pl0 pl1 pl2 pl3 pl4 pl5 : Nat → Int32} {pl6 pl7 pl8 : Int32} {er0 er1 : Nat → Int32} {er2 : Int32} {bk0 bk1 : Nat → Int32} {bk2 dr0 : Int32} {sh0 sh1 sh2 sh3 sh4 sh5 : Nat → Int32} {sh6 sh7 sh8 : Int32} {sp0 sp1 sp2 sp3 sp4 sp5 : Nat → Int32} {sp6 sp7 sp8 a0 : Int32} {a1 : Nat → Int32} {a2 : Int32} {a3 : Nat → Int32} {a4 : Int32} {a5 a6 a7 a8 a9 : Nat → Int32} {a10 : Int32} {a11 : Nat → Int32} {a12 a13 a14 a15 a16 a17 : Int32} {a18 : Nat → Int32} {a19 : Int32} {a20 : Nat → Int32} {a21 : Int32} {a22 a23 a24 a25 : Nat → Int32} {a26 : Int32} {a27 a28 a29 a30 : Nat → Int32} {a31 : Int32} {a32 a33 : Nat → Int32} {a34 : Int32} {a35 a36 a37 a38 : Nat → Int32} (hRel : Rel rd0 rd1 rd2 rd3 rd4 dy0 dy1 dy2 dy3 dy4 dy5 pa0 pa1 pa2 im0 im1 im2 pl0 pl1 pl2 pl3 pl4 pl5 pl6 pl7 pl8 er0 er1 er2 bk0 bk1 bk2 dr0 sh0 sh1 sh2 sh3 sh4 sh5 sh6 sh7 sh8 sp0 sp1 sp2 sp3 sp4 sp5 sp6 sp7 sp8 a0 a1 a2 a3 a4 a5 a6 a7 a8 a9 a10 a11 a12 a13 a14 a15 a16 a17 a18 a19 a20 a21 a22 a23 a24 a25 a26 a27 a28 a29 a30 a31 a32 a33 a34 a35 a36 a37 a38) (K : ∀ {AD : Nat → Nat → Nat} {rd0 : Nat → Int32} {rd1 rd2 rd3 rd4 : Int32} {dy0 dy1 dy2 dy3 dy4 : Nat → Int32} {dy5 : Int32} {pa0 : Nat → Int32} {pa1 pa2 : Int32} {im0 im1 im2 pl0 pl1 pl2 pl3 pl4 pl5 : Nat → Int32} {pl6 pl7 pl8 : Int32} {er0 er1 : Nat → Int32} {er2 : Int32} {bk0 bk1 : Nat → Int32} {bk2 dr0 : Int32} {sh0 sh1 sh2 sh3 sh4 sh5 : Nat → Int32} {sh6 sh7 sh8 : Int32} {sp0 sp1 sp2 sp3 sp4 sp5 : Nat → Int32} {sp6 sp7 sp8 a0 : Int32} {a1 : Nat → Int32} {a2 : Int32} {a3 : Nat → Int32} {a4 : Int32} {a5 a6 a7 a8 a9 : Nat → Int32} {a10 : Int32} {a11 : Nat → Int32} {a12 a13 a14 a15 a16 a17 : Int32} {a18 : Nat → Int32} {a19 : Int32} {a20 : Nat → Int32} {a21 : Int32} {a22 a23 a24 a25 : Nat → Int32} {a26 : Int32} {a27 a28 a29 a30 : Nat → Int32} {a31 : Int32} {a32 a33 : Nat → Int32} {a34 : Int32} {a35 a36 a37 a38 : Nat → Int32}, Rel rd0 rd1 rd2 rd3 rd4 dy0 dy1 dy2 dy3 dy4 dy5 pa0 pa1 pa2 im0 im1 im2 pl0 pl1 pl2 pl3 pl4 pl5 pl6 pl7 pl8 er0 er1 er2 bk0 bk1 bk2 dr0 sh0 sh1 sh2 sh3 sh4 sh5 sh6 sh7 sh8 sp0 sp1 sp2 sp3 sp4 sp5 sp6 sp7 sp8 a0 a1 a2 a3 a4 a5 a6 a7 a8 a9 a10 a11 a12 a13 a14 a15 a16 a17 a18 a19 a20 a21 a22 a23 a24 a25 a26 a27 a28 a29 a30 a31 a32 a33 a34 a35 a36 a37 a38 → Sm p l e room_1 s m #[Value.ref b] below meth c G (fun q : Nat => s.heap.size ≤ q) 4 68 1925 (lw_Z below #[Value.ref b] s) 944 [(3, .int (nI k)), (2, .ref (ad 0)), (1, .ref (AD 10 0)), (0, .ref b)] [] (wC G AD (AD 8 0) (AD 9 0) rd0 rd1 rd2 rd3 rd4 dy0 dy1 dy2 dy3 dy4 dy5 pa0 pa1 pa2 im0 im1 im2 pl0 pl1 pl2 pl3 pl4 pl5 pl6 pl7 pl8 er0 er1 er2 bk0 bk1 bk2 dr0 sh0 sh1 sh2 sh3 sh4 sh5 sh6 sh7 sh8 sp0 sp1 sp2 sp3 sp4 sp5 sp6 sp7 sp8 ++ wX10 G ad a0 a1 a2 a3 a4 a5 a6 a7 a8 a9 a10 a11 a12 a13 a14 a15 a16 a17 a18 a19 a20 a21 a22 a23 a24 a25 a26 a27 a28 a29 a30 a31 a32 a33 a34 a35 a36 a37 a38)) : Sm p l e room_1 s m #[Value.ref b] below meth c G (fun q : Nat => s.heap.size ≤ q) 4 68 1925 (lw_Z below #[Value.ref b] s) 816 [(3, .int (nI k)), (2, .ref (ad 0)), (1, .ref (AD 10 0)), (0, .ref b)] [] (wC G AD (AD 8 0) (AD 9 0) rd0 rd1 rd2 rd3 rd4 dy0 dy1 dy2 dy3 dy4 dy5 pa0 pa1 pa2 im0 im1 im2 pl0 pl1 pl2 pl3 pl4 pl5 pl6 pl7 pl8 er0 er1 er2 bk0 bk1 bk2 dr0 sh0 sh1 sh2 sh3 sh4 sh5 sh6 sh7 sh8 sp0 sp1 sp2 sp3 sp4 sp5 sp6 sp7 sp8 ++ wX10 G ad a0 a1 a2 a3 a4 a5 a6 a7 a8 a9 a10 a11 a12 a13 a14 a15 a16 a17 a18 a19 a20 a21 a22 a23 a24 a25 a26 a27 a28 a29 a30 a31 a32 a33 a34 a35 a36 a37 a38) := by
  obtain ⟨hT, hF, hB, hD, hI, hP, hM, hE, hK, hS, s0⟩ := hRel
  have k_t0 : 0 ≤ a0 := hB.2.1.1
  have k_t12 : a0 ≤ 12 := hB.2.1.2
  have k_h0 : 0 ≤ a2 := hB.2.2.1.1
  have k_h4 : a2 ≤ 4 := hB.2.2.1.2
  have k_ca : 0 ≤ a4 := hB.2.2.2.1.1
  have k_cb : a4 ≤ 5 := hB.2.2.2.1.2
  have k_th : 0 < a2 → 0 < a0 := hB.2.2.2.2.1
  have k_tc : 0 < a4 → 0 < a0 := hB.2.2.2.2.2.1
  have c_t12 : sh6 ≤ 12 := by rw [hB.1.1]; exact k_t12
  have c_h0 : 0 ≤ sh7 := by rw [hB.1.2.1]; exact k_h0
  have c_h4 : sh7 ≤ 4 := by rw [hB.1.2.1]; exact k_h4
  have c_ca : 0 ≤ sh8 := by rw [hB.1.2.2]; exact k_ca
  have c_cb : sh8 ≤ 5 := by rw [hB.1.2.2]; exact k_cb
  have hc5 := clampLe (n := 5) (b := 5) rfl k_ca k_cb
  have k_n0 : 0 ≤ a9 22 := hI.1.1
  have k_n9 : a9 22 ≤ 9060 := Int32.le_iff_toInt_le.mpr hI.1.2
  have k_NI : NI 9060 a9 := DI_NI hc5 hI
  have k_u0 : 0 ≤ a26 := hP.2.1
  have k_u20 : a26 ≤ 20 := hP.2.2.1
  have c_u0 : 0 ≤ pa1 := hP.2.2.2.1
  have c_u20 : pa1 < 20 := hP.2.2.2.2.1
  have k_x0 : 0 ≤ a12 := hT.2.1
  have k_x240 : a12 ≤ 240 := hT.2.2.1
  have c_x0 : 0 ≤ rd2 := by rw [hT.1]; exact k_x0
  have c_x240 : rd2 ≤ 240 := by rw [hT.1]; exact k_x240
  have k_e0 : 0 ≤ a31 := hE.2.1
  have k_e6 : a31 ≤ 6 := hE.2.2.1
  have c_e0 : 0 ≤ er2 := by rw [hE.1]; exact k_e0
  have c_e6 : er2 ≤ 6 := by rw [hE.1]; exact k_e6
  have k_b0 : 0 ≤ a34 := hK.2.1
  have k_b15 : a34 ≤ 15 := hK.2.2.1
  have c_b0 : 0 ≤ bk2 := by rw [hK.1]; exact k_b0
  have c_b15 : bk2 ≤ 15 := by rw [hK.1]; exact k_b15
  have k_bk : ∀ j : Nat, j < a34.toNatClampNeg → vp_in (a35 j) 5 := fun j hj => by
    have z := hK.2.2.2 j hj
    rw [cl_nI _ z.2.2.1]
    exact vp_in_nI (by omega) (by decide)
  have c_bk : ∀ j : Nat, j < bk2.toNatClampNeg → vp_in (bk0 j) 5 := fun j hj => by
    rw [hK.1] at hj
    rw [(hK.2.2.2 j hj).1]
    exact k_bk j hj
  have c_hL : ∀ j : Nat, j < 5 → ¬ rX0_hasCase sh8 (nI j) = 0 → 1 ≤ sh3 j ∧ sh3 j ≤ 4 := fun j h5 hj => hL_of hB h5 hj
  have EE : rX9_write bk2 sh8 (xs (nI k + (1 : Int32)).toNatClampNeg) (xs (nI k + (2 : Int32)).toNatClampNeg) = rX10_write a4 a34 (xs (nI k + (1 : Int32)).toNatClampNeg) (xs (nI k + (2 : Int32)).toNatClampNeg) ∧ Rel rd0 rd1 rd2 rd3 rd4 dy0 dy1 dy2 dy3 dy4 dy5 pa0 pa1 pa2 im0 im1 im2 pl0 pl1 pl2 pl3 pl4 pl5 pl6 pl7 pl8 er0 er1 er2 (sX9_write_o6_0 bk0 bk2 sh8 (xs (nI k + (1 : Int32)).toNatClampNeg) (xs (nI k + (2 : Int32)).toNatClampNeg)) (sX9_write_o6_1 bk1 bk2 sh8 (xs (nI k + (1 : Int32)).toNatClampNeg) (xs (nI k + (2 : Int32)).toNatClampNeg)) (sX9_write_o6_2 bk2 sh8 (xs (nI k + (1 : Int32)).toNatClampNeg) (xs (nI k + (2 : Int32)).toNatClampNeg)) dr0 sh0 sh1 sh2 sh3 sh4 sh5 sh6 sh7 sh8 sp0 sp1 sp2 sp3 sp4 sp5 sp6 sp7 sp8 a0 a1 a2 a3 a4 a5 a6 a7 a8 a9 a10 a11 a12 a13 a14 a15 a16 a17 a18 a19 a20 a21 a22 a23 a24 a25 a26 a27 a28 a29 a30 a31 a32 a33 (sX10_write_34 a4 a34 (xs (nI k + (1 : Int32)).toNatClampNeg) (xs (nI k + (2 : Int32)).toNatClampNeg)) (sX10_write_35 a4 a34 a35 (xs (nI k + (1 : Int32)).toNatClampNeg) (xs (nI k + (2 : Int32)).toNatClampNeg)) (sX10_write_36 a4 a34 a36 (xs (nI k + (1 : Int32)).toNatClampNeg) (xs (nI k + (2 : Int32)).toNatClampNeg)) a37 a38 := by
    have z := e_write (p0 := (xs (nI k + (1 : Int32)).toNatClampNeg)) (p1 := (xs (nI k + (2 : Int32)).toNatClampNeg)) hB hK
    exact ⟨z.1, hT, hF, hB, hD, hI, hP, hM, hE, z.2, hS, s0⟩
  refine s_aload_n X (pc := 816) (x := (AD 10 0)) 2 dL_law_816 rfl ?_
  refine s_aload_n X (pc := 817) (x := b) 3 dL_law_817 rfl ?_
  refine s_iload_n X (pc := 818) (x := nI k) 0 dL_law_818 rfl ?_
  refine s_iconst X (pc := 819) (v := 1) dL_law_819 (by decide) ?_
  refine s_iadd X (pc := 820) dL_law_820 ?_
  refine s_sld X (pc := 821) hX hbl (ix5 (j := 1) rfl (by decide) hk hL) dL_law_821 ?_
  refine s_aload_n X (pc := 822) (x := b) 3 dL_law_822 rfl ?_
  refine s_iload_n X (pc := 823) (x := nI k) 0 dL_law_823 rfl ?_
  refine s_iconst X (pc := 824) (v := 2) dL_law_824 (by decide) ?_
  refine s_iadd X (pc := 825) dL_law_825 ?_
  refine s_sld X (pc := 826) hX hbl (ix5 (j := 2) rfl (by decide) hk hL) dL_law_826 ?_
  refine s_callVi0 X (pc := 827) (cells := 68) (slots := 1925) (r := rX9_write bk2 sh8 (xs (nI k + (1 : Int32)).toNatClampNeg) (xs (nI k + (2 : Int32)).toNatClampNeg)) (w := wC G AD (AD 8 0) (AD 9 0) rd0 rd1 rd2 rd3 rd4 dy0 dy1 dy2 dy3 dy4 dy5 pa0 pa1 pa2 im0 im1 im2 pl0 pl1 pl2 pl3 pl4 pl5 pl6 pl7 pl8 er0 er1 er2 bk0 bk1 bk2 dr0 sh0 sh1 sh2 sh3 sh4 sh5 sh6 sh7 sh8 sp0 sp1 sp2 sp3 sp4 sp5 sp6 sp7 sp8 ++ wX10 G ad a0 a1 a2 a3 a4 a5 a6 a7 a8 a9 a10 a11 a12 a13 a14 a15 a16 a17 a18 a19 a20 a21 a22 a23 a24 a25 a26 a27 a28 a29 a30 a31 a32 a33 a34 a35 a36 a37 a38) (n := 2) (st := []) (As := [.int (xs (nI k + (1 : Int32)).toNatClampNeg), .int (xs (nI k + (2 : Int32)).toNatClampNeg)]) (w2 := wC G AD (AD 8 0) (AD 9 0) rd0 rd1 rd2 rd3 rd4 dy0 dy1 dy2 dy3 dy4 dy5 pa0 pa1 pa2 im0 im1 im2 pl0 pl1 pl2 pl3 pl4 pl5 pl6 pl7 pl8 er0 er1 er2 (sX9_write_o6_0 bk0 bk2 sh8 (xs (nI k + (1 : Int32)).toNatClampNeg) (xs (nI k + (2 : Int32)).toNatClampNeg)) (sX9_write_o6_1 bk1 bk2 sh8 (xs (nI k + (1 : Int32)).toNatClampNeg) (xs (nI k + (2 : Int32)).toNatClampNeg)) (sX9_write_o6_2 bk2 sh8 (xs (nI k + (1 : Int32)).toNatClampNeg) (xs (nI k + (2 : Int32)).toNatClampNeg)) dr0 sh0 sh1 sh2 sh3 sh4 sh5 sh6 sh7 sh8 sp0 sp1 sp2 sp3 sp4 sp5 sp6 sp7 sp8 ++ wX10 G ad a0 a1 a2 a3 a4 a5 a6 a7 a8 a9 a10 a11 a12 a13 a14 a15 a16 a17 a18 a19 a20 a21 a22 a23 a24 a25 a26 a27 a28 a29 a30 a31 a32 a33 a34 a35 a36 a37 a38) 1 (ci_fr (List.Perm.refl _) (List.Perm.refl _) [AD 10 0, AD 0 0, AD 0 1, AD 1 0, AD 1 1, AD 1 2, AD 1 3, AD 1 4, AD 1 5, AD 2 0, AD 2 1, AD 3 0, AD 3 1, AD 3 2, AD 3 3, AD 4 0, AD 4 1, AD 4 2, AD 4 3, AD 4 4, AD 4 5, AD 4 6, AD 5 0, AD 5 1, AD 5 2, AD 6 0, AD 6 1, AD 6 2, AD 7 0, AD 8 0, AD 8 1, AD 8 2, AD 8 3, AD 8 4, AD 8 5, AD 8 6, AD 9 0, AD 9 1, AD 9 2, AD 9 3, AD 9 4, AD 9 5, AD 9 6] rfl rfl (c_X9_write l G AD rd0 rd1 rd2 rd3 rd4 dy0 dy1 dy2 dy3 dy4 dy5 pa0 pa1 pa2 im0 im1 im2 pl0 pl1 pl2 pl3 pl4 pl5 pl6 pl7 pl8 er0 er1 er2 bk0 bk1 bk2 dr0 sh0 sh1 sh2 sh3 sh4 sh5 sh6 sh7 sh8 sp0 sp1 sp2 sp3 sp4 sp5 sp6 sp7 sp8 (xs (nI k + (1 : Int32)).toNatClampNeg) (xs (nI k + (2 : Int32)).toNatClampNeg) (by with_reducible assumption) (by with_reducible assumption) (by with_reducible assumption))) gL_law_X9_write rfl (by decide +kernel) ⟨(Nat.le_of_ble_eq_true rfl), (Nat.le_of_ble_eq_true rfl)⟩ 0 rfl rfl rfl rfl (Nat.le_of_ble_eq_true rfl) (Nat.le_of_ble_eq_true rfl) (Nat.le_of_ble_eq_true rfl) dL_law_827 ?_
  refine s_aload_n X (pc := 830) (x := (ad 0)) 1 dL_law_830 rfl ?_
  refine s_aload_n X (pc := 831) (x := b) 3 dL_law_831 rfl ?_
  refine s_iload_n X (pc := 832) (x := nI k) 0 dL_law_832 rfl ?_
  refine s_iconst X (pc := 833) (v := 1) dL_law_833 (by decide) ?_
  refine s_iadd X (pc := 834) dL_law_834 ?_
  refine s_sld X (pc := 835) hX hbl (ix5 (j := 1) rfl (by decide) hk hL) dL_law_835 ?_
  refine s_aload_n X (pc := 836) (x := b) 3 dL_law_836 rfl ?_
  refine s_iload_n X (pc := 837) (x := nI k) 0 dL_law_837 rfl ?_
  refine s_iconst X (pc := 838) (v := 2) dL_law_838 (by decide) ?_
  refine s_iadd X (pc := 839) dL_law_839 ?_
  refine s_sld X (pc := 840) hX hbl (ix5 (j := 2) rfl (by decide) hk hL) dL_law_840 ?_
  refine s_callVi0 X (pc := 841) (cells := 68) (slots := 1925) (r := rX10_write a4 a34 (xs (nI k + (1 : Int32)).toNatClampNeg) (xs (nI k + (2 : Int32)).toNatClampNeg)) (w := wC G AD (AD 8 0) (AD 9 0) rd0 rd1 rd2 rd3 rd4 dy0 dy1 dy2 dy3 dy4 dy5 pa0 pa1 pa2 im0 im1 im2 pl0 pl1 pl2 pl3 pl4 pl5 pl6 pl7 pl8 er0 er1 er2 (sX9_write_o6_0 bk0 bk2 sh8 (xs (nI k + (1 : Int32)).toNatClampNeg) (xs (nI k + (2 : Int32)).toNatClampNeg)) (sX9_write_o6_1 bk1 bk2 sh8 (xs (nI k + (1 : Int32)).toNatClampNeg) (xs (nI k + (2 : Int32)).toNatClampNeg)) (sX9_write_o6_2 bk2 sh8 (xs (nI k + (1 : Int32)).toNatClampNeg) (xs (nI k + (2 : Int32)).toNatClampNeg)) dr0 sh0 sh1 sh2 sh3 sh4 sh5 sh6 sh7 sh8 sp0 sp1 sp2 sp3 sp4 sp5 sp6 sp7 sp8 ++ wX10 G ad a0 a1 a2 a3 a4 a5 a6 a7 a8 a9 a10 a11 a12 a13 a14 a15 a16 a17 a18 a19 a20 a21 a22 a23 a24 a25 a26 a27 a28 a29 a30 a31 a32 a33 a34 a35 a36 a37 a38) (n := 2) (st := [.int (rX9_write bk2 sh8 (xs (nI k + (1 : Int32)).toNatClampNeg) (xs (nI k + (2 : Int32)).toNatClampNeg))]) (As := [.int (xs (nI k + (1 : Int32)).toNatClampNeg), .int (xs (nI k + (2 : Int32)).toNatClampNeg)]) (w2 := wC G AD (AD 8 0) (AD 9 0) rd0 rd1 rd2 rd3 rd4 dy0 dy1 dy2 dy3 dy4 dy5 pa0 pa1 pa2 im0 im1 im2 pl0 pl1 pl2 pl3 pl4 pl5 pl6 pl7 pl8 er0 er1 er2 (sX9_write_o6_0 bk0 bk2 sh8 (xs (nI k + (1 : Int32)).toNatClampNeg) (xs (nI k + (2 : Int32)).toNatClampNeg)) (sX9_write_o6_1 bk1 bk2 sh8 (xs (nI k + (1 : Int32)).toNatClampNeg) (xs (nI k + (2 : Int32)).toNatClampNeg)) (sX9_write_o6_2 bk2 sh8 (xs (nI k + (1 : Int32)).toNatClampNeg) (xs (nI k + (2 : Int32)).toNatClampNeg)) dr0 sh0 sh1 sh2 sh3 sh4 sh5 sh6 sh7 sh8 sp0 sp1 sp2 sp3 sp4 sp5 sp6 sp7 sp8 ++ wX10 G ad a0 a1 a2 a3 a4 a5 a6 a7 a8 a9 a10 a11 a12 a13 a14 a15 a16 a17 a18 a19 a20 a21 a22 a23 a24 a25 a26 a27 a28 a29 a30 a31 a32 a33 (sX10_write_34 a4 a34 (xs (nI k + (1 : Int32)).toNatClampNeg) (xs (nI k + (2 : Int32)).toNatClampNeg)) (sX10_write_35 a4 a34 a35 (xs (nI k + (1 : Int32)).toNatClampNeg) (xs (nI k + (2 : Int32)).toNatClampNeg)) (sX10_write_36 a4 a34 a36 (xs (nI k + (1 : Int32)).toNatClampNeg) (xs (nI k + (2 : Int32)).toNatClampNeg)) a37 a38) 2 (ci_fr List.perm_append_comm List.perm_append_comm [ad 0, ad 2, ad 4, ad 6, ad 7, ad 8, ad 9, ad 10, ad 12, ad 19, ad 21, ad 23, ad 24, ad 25, ad 26, ad 28, ad 29, ad 30, ad 31, ad 33, ad 34, ad 36, ad 37, ad 38, ad 39] rfl rfl (c_X10_write l G ad a0 a1 a2 a3 a4 a5 a6 a7 a8 a9 a10 a11 a12 a13 a14 a15 a16 a17 a18 a19 a20 a21 a22 a23 a24 a25 a26 a27 a28 a29 a30 a31 a32 a33 a34 a35 a36 a37 a38 (xs (nI k + (1 : Int32)).toNatClampNeg) (xs (nI k + (2 : Int32)).toNatClampNeg) (by with_reducible assumption) (by with_reducible assumption) (by with_reducible assumption) (by with_reducible assumption))) gL_law_X10_write rfl (by decide +kernel) ⟨(Nat.le_of_ble_eq_true rfl), (Nat.le_of_ble_eq_true rfl)⟩ 43 rfl rfl rfl rfl (Nat.le_of_ble_eq_true rfl) (Nat.le_of_ble_eq_true rfl) (Nat.le_of_ble_eq_true rfl) dL_law_841 ?_
  refine s_icmp_eq X (pc := 844) (tgt := 944) dL_law_844 (by decide) (fun cq => ?_) (fun cq => absurd EE.1 cq)
  exact K (AD := AD) EE.2

set_option maxRecDepth 100000 in
set_option maxHeartbeats 4000000 in
theorem law_tear {p : Program} {l : Launch} {e : Env} {s : State} {m : MethodId} {below : List Frame} {meth : Method} {c : Code} {G : GT} {b L : Nat} {xs : Nat → Int32} (X : Cx p room_1 s m #[Value.ref b] meth c G (fun q : Nat => s.heap.size ≤ q) 4 cL_law wsL_law RL (some .boolean)) (hX : va_X b L xs s s.heap) (hbl : b < s.heap.size) {k : Nat} (hk : k + 5 ≤ L) (hL : L ≤ 320) {AD : Nat → Nat → Nat} {ad : Nat → Nat} {rd0 : Nat → Int32} {rd1 rd2 rd3 rd4 : Int32} {dy0 dy1 dy2 dy3 dy4 : Nat → Int32} {dy5 : Int32} {pa0 : Nat → Int32} {pa1 pa2 : Int32} {im0 im1 im2 pl0 pl1 pl2 pl3 pl4 pl5 : Nat → Int32} {pl6 pl7 pl8 : Int32} {er0 er1 : Nat → Int32} {er2 : Int32} {bk0 bk1 : Nat → Int32} {bk2 dr0 : Int32} {sh0 sh1 sh2 sh3 sh4 sh5 : Nat → Int32} {sh6 sh7 sh8 : Int32} {sp0 sp1 sp2 sp3 sp4 sp5 : Nat → Int32} {sp6 sp7 sp8 a0 : Int32} {a1 : Nat → Int32} {a2 : Int32} {a3 : Nat → Int32} {a4 : Int32} {a5 a6 a7 a8 a9 : Nat → Int32} {a10 : Int32} {a11 : Nat → Int32} {a12 a13 a14 a15 a16 a17 : Int32} {a18 : Nat → Int32} {a19 : Int32} {a20 : Nat → Int32} {a21 : Int32} {a22 a23 a24 a25 : Nat → Int32} {a26 : Int32} {a27 a28 a29 a30 : Nat → Int32} {a31 : Int32} {a32 a33 : Nat → Int32} {a34 : Int32} {a35 a36 a37 a38 : Nat → Int32} (hRel : Rel rd0 rd1 rd2 rd3 rd4 dy0 dy1 dy2 dy3 dy4 dy5 pa0 pa1 pa2 im0 im1 im2 pl0 pl1 pl2 pl3 pl4 pl5 pl6 pl7 pl8 er0 er1 er2 bk0 bk1 bk2 dr0 sh0 sh1 sh2 sh3 sh4 sh5 sh6 sh7 sh8 sp0 sp1 sp2 sp3 sp4 sp5 sp6 sp7 sp8 a0 a1 a2 a3 a4 a5 a6 a7 a8 a9 a10 a11 a12 a13 a14 a15 a16 a17 a18 a19 a20 a21 a22 a23 a24 a25 a26 a27 a28 a29 a30 a31 a32 a33 a34 a35 a36 a37 a38) (K : ∀ {AD : Nat → Nat → Nat} {rd0 : Nat → Int32} {rd1 rd2 rd3 rd4 : Int32} {dy0 dy1 dy2 dy3 dy4 : Nat → Int32} {dy5 : Int32} {pa0 : Nat → Int32} {pa1 pa2 : Int32} {im0 im1 im2 pl0 pl1 pl2 pl3 pl4 pl5 : Nat → Int32} {pl6 pl7 pl8 : Int32} {er0 er1 : Nat → Int32} {er2 : Int32} {bk0 bk1 : Nat → Int32} {bk2 dr0 : Int32} {sh0 sh1 sh2 sh3 sh4 sh5 : Nat → Int32} {sh6 sh7 sh8 : Int32} {sp0 sp1 sp2 sp3 sp4 sp5 : Nat → Int32} {sp6 sp7 sp8 a0 : Int32} {a1 : Nat → Int32} {a2 : Int32} {a3 : Nat → Int32} {a4 : Int32} {a5 a6 a7 a8 a9 : Nat → Int32} {a10 : Int32} {a11 : Nat → Int32} {a12 a13 a14 a15 a16 a17 : Int32} {a18 : Nat → Int32} {a19 : Int32} {a20 : Nat → Int32} {a21 : Int32} {a22 a23 a24 a25 : Nat → Int32} {a26 : Int32} {a27 a28 a29 a30 : Nat → Int32} {a31 : Int32} {a32 a33 : Nat → Int32} {a34 : Int32} {a35 a36 a37 a38 : Nat → Int32}, Rel rd0 rd1 rd2 rd3 rd4 dy0 dy1 dy2 dy3 dy4 dy5 pa0 pa1 pa2 im0 im1 im2 pl0 pl1 pl2 pl3 pl4 pl5 pl6 pl7 pl8 er0 er1 er2 bk0 bk1 bk2 dr0 sh0 sh1 sh2 sh3 sh4 sh5 sh6 sh7 sh8 sp0 sp1 sp2 sp3 sp4 sp5 sp6 sp7 sp8 a0 a1 a2 a3 a4 a5 a6 a7 a8 a9 a10 a11 a12 a13 a14 a15 a16 a17 a18 a19 a20 a21 a22 a23 a24 a25 a26 a27 a28 a29 a30 a31 a32 a33 a34 a35 a36 a37 a38 → Sm p l e room_1 s m #[Value.ref b] below meth c G (fun q : Nat => s.heap.size ≤ q) 4 68 1925 (lw_Z below #[Value.ref b] s) 944 [(3, .int (nI k)), (2, .ref (ad 0)), (1, .ref (AD 10 0)), (0, .ref b)] [] (wC G AD (AD 8 0) (AD 9 0) rd0 rd1 rd2 rd3 rd4 dy0 dy1 dy2 dy3 dy4 dy5 pa0 pa1 pa2 im0 im1 im2 pl0 pl1 pl2 pl3 pl4 pl5 pl6 pl7 pl8 er0 er1 er2 bk0 bk1 bk2 dr0 sh0 sh1 sh2 sh3 sh4 sh5 sh6 sh7 sh8 sp0 sp1 sp2 sp3 sp4 sp5 sp6 sp7 sp8 ++ wX10 G ad a0 a1 a2 a3 a4 a5 a6 a7 a8 a9 a10 a11 a12 a13 a14 a15 a16 a17 a18 a19 a20 a21 a22 a23 a24 a25 a26 a27 a28 a29 a30 a31 a32 a33 a34 a35 a36 a37 a38)) : Sm p l e room_1 s m #[Value.ref b] below meth c G (fun q : Nat => s.heap.size ≤ q) 4 68 1925 (lw_Z below #[Value.ref b] s) 849 [(3, .int (nI k)), (2, .ref (ad 0)), (1, .ref (AD 10 0)), (0, .ref b)] [] (wC G AD (AD 8 0) (AD 9 0) rd0 rd1 rd2 rd3 rd4 dy0 dy1 dy2 dy3 dy4 dy5 pa0 pa1 pa2 im0 im1 im2 pl0 pl1 pl2 pl3 pl4 pl5 pl6 pl7 pl8 er0 er1 er2 bk0 bk1 bk2 dr0 sh0 sh1 sh2 sh3 sh4 sh5 sh6 sh7 sh8 sp0 sp1 sp2 sp3 sp4 sp5 sp6 sp7 sp8 ++ wX10 G ad a0 a1 a2 a3 a4 a5 a6 a7 a8 a9 a10 a11 a12 a13 a14 a15 a16 a17 a18 a19 a20 a21 a22 a23 a24 a25 a26 a27 a28 a29 a30 a31 a32 a33 a34 a35 a36 a37 a38) := by
  obtain ⟨hT, hF, hB, hD, hI, hP, hM, hE, hK, hS, s0⟩ := hRel
  have k_t0 : 0 ≤ a0 := hB.2.1.1
  have k_t12 : a0 ≤ 12 := hB.2.1.2
  have k_h0 : 0 ≤ a2 := hB.2.2.1.1
  have k_h4 : a2 ≤ 4 := hB.2.2.1.2
  have k_ca : 0 ≤ a4 := hB.2.2.2.1.1
  have k_cb : a4 ≤ 5 := hB.2.2.2.1.2
  have k_th : 0 < a2 → 0 < a0 := hB.2.2.2.2.1
  have k_tc : 0 < a4 → 0 < a0 := hB.2.2.2.2.2.1
  have c_t12 : sh6 ≤ 12 := by rw [hB.1.1]; exact k_t12
  have c_h0 : 0 ≤ sh7 := by rw [hB.1.2.1]; exact k_h0
  have c_h4 : sh7 ≤ 4 := by rw [hB.1.2.1]; exact k_h4
  have c_ca : 0 ≤ sh8 := by rw [hB.1.2.2]; exact k_ca
  have c_cb : sh8 ≤ 5 := by rw [hB.1.2.2]; exact k_cb
  have hc5 := clampLe (n := 5) (b := 5) rfl k_ca k_cb
  have k_n0 : 0 ≤ a9 22 := hI.1.1
  have k_n9 : a9 22 ≤ 9060 := Int32.le_iff_toInt_le.mpr hI.1.2
  have k_NI : NI 9060 a9 := DI_NI hc5 hI
  have k_u0 : 0 ≤ a26 := hP.2.1
  have k_u20 : a26 ≤ 20 := hP.2.2.1
  have c_u0 : 0 ≤ pa1 := hP.2.2.2.1
  have c_u20 : pa1 < 20 := hP.2.2.2.2.1
  have k_x0 : 0 ≤ a12 := hT.2.1
  have k_x240 : a12 ≤ 240 := hT.2.2.1
  have c_x0 : 0 ≤ rd2 := by rw [hT.1]; exact k_x0
  have c_x240 : rd2 ≤ 240 := by rw [hT.1]; exact k_x240
  have k_e0 : 0 ≤ a31 := hE.2.1
  have k_e6 : a31 ≤ 6 := hE.2.2.1
  have c_e0 : 0 ≤ er2 := by rw [hE.1]; exact k_e0
  have c_e6 : er2 ≤ 6 := by rw [hE.1]; exact k_e6
  have k_b0 : 0 ≤ a34 := hK.2.1
  have k_b15 : a34 ≤ 15 := hK.2.2.1
  have c_b0 : 0 ≤ bk2 := by rw [hK.1]; exact k_b0
  have c_b15 : bk2 ≤ 15 := by rw [hK.1]; exact k_b15
  have k_bk : ∀ j : Nat, j < a34.toNatClampNeg → vp_in (a35 j) 5 := fun j hj => by
    have z := hK.2.2.2 j hj
    rw [cl_nI _ z.2.2.1]
    exact vp_in_nI (by omega) (by decide)
  have c_bk : ∀ j : Nat, j < bk2.toNatClampNeg → vp_in (bk0 j) 5 := fun j hj => by
    rw [hK.1] at hj
    rw [(hK.2.2.2 j hj).1]
    exact k_bk j hj
  have c_hL : ∀ j : Nat, j < 5 → ¬ rX0_hasCase sh8 (nI j) = 0 → 1 ≤ sh3 j ∧ sh3 j ≤ 4 := fun j h5 hj => hL_of hB h5 hj
  have EE : rX9_tear er2 bk2 = rX10_tear a31 a34 ∧ Rel rd0 rd1 rd2 rd3 rd4 dy0 dy1 dy2 dy3 dy4 dy5 pa0 pa1 pa2 im0 im1 im2 pl0 pl1 pl2 pl3 pl4 pl5 pl6 pl7 pl8 er0 er1 sX9_tear_o5_2 bk0 bk1 sX9_tear_o6_2 dr0 sh0 sh1 sh2 sh3 sh4 sh5 sh6 sh7 sh8 sp0 sp1 sp2 sp3 sp4 sp5 sp6 sp7 sp8 a0 a1 a2 a3 a4 a5 a6 a7 a8 a9 a10 a11 a12 a13 a14 a15 a16 a17 a18 a19 a20 a21 a22 a23 a24 a25 a26 a27 a28 a29 a30 sX10_tear_31 a32 a33 sX10_tear_34 a35 a36 a37 a38 := by
    refine ⟨?_, hT, hF, hB, hD, hI, hP, hM, ⟨rfl, by decide, by decide, fun j hj => absurd hj (Nat.not_lt_zero _)⟩, ⟨rfl, by decide, by decide, fun j hj => absurd hj (Nat.not_lt_zero _)⟩, hS, s0⟩
    unfold rX9_tear rX10_tear
    rw [hE.1, hK.1]
  refine s_aload_n X (pc := 849) (x := (AD 10 0)) 2 dL_law_849 rfl ?_
  refine s_callVi0 X (pc := 850) (cells := 68) (slots := 1925) (r := rX9_tear er2 bk2) (w := wC G AD (AD 8 0) (AD 9 0) rd0 rd1 rd2 rd3 rd4 dy0 dy1 dy2 dy3 dy4 dy5 pa0 pa1 pa2 im0 im1 im2 pl0 pl1 pl2 pl3 pl4 pl5 pl6 pl7 pl8 er0 er1 er2 bk0 bk1 bk2 dr0 sh0 sh1 sh2 sh3 sh4 sh5 sh6 sh7 sh8 sp0 sp1 sp2 sp3 sp4 sp5 sp6 sp7 sp8 ++ wX10 G ad a0 a1 a2 a3 a4 a5 a6 a7 a8 a9 a10 a11 a12 a13 a14 a15 a16 a17 a18 a19 a20 a21 a22 a23 a24 a25 a26 a27 a28 a29 a30 a31 a32 a33 a34 a35 a36 a37 a38) (n := 0) (st := []) (As := []) (w2 := wC G AD (AD 8 0) (AD 9 0) rd0 rd1 rd2 rd3 rd4 dy0 dy1 dy2 dy3 dy4 dy5 pa0 pa1 pa2 im0 im1 im2 pl0 pl1 pl2 pl3 pl4 pl5 pl6 pl7 pl8 er0 er1 sX9_tear_o5_2 bk0 bk1 sX9_tear_o6_2 dr0 sh0 sh1 sh2 sh3 sh4 sh5 sh6 sh7 sh8 sp0 sp1 sp2 sp3 sp4 sp5 sp6 sp7 sp8 ++ wX10 G ad a0 a1 a2 a3 a4 a5 a6 a7 a8 a9 a10 a11 a12 a13 a14 a15 a16 a17 a18 a19 a20 a21 a22 a23 a24 a25 a26 a27 a28 a29 a30 a31 a32 a33 a34 a35 a36 a37 a38) 1 (ci_fr (List.Perm.refl _) (List.Perm.refl _) [AD 10 0, AD 0 0, AD 0 1, AD 1 0, AD 1 1, AD 1 2, AD 1 3, AD 1 4, AD 1 5, AD 2 0, AD 2 1, AD 3 0, AD 3 1, AD 3 2, AD 3 3, AD 4 0, AD 4 1, AD 4 2, AD 4 3, AD 4 4, AD 4 5, AD 4 6, AD 5 0, AD 5 1, AD 5 2, AD 6 0, AD 6 1, AD 6 2, AD 7 0, AD 8 0, AD 8 1, AD 8 2, AD 8 3, AD 8 4, AD 8 5, AD 8 6, AD 9 0, AD 9 1, AD 9 2, AD 9 3, AD 9 4, AD 9 5, AD 9 6] rfl rfl (c_X9_tear l G AD rd0 rd1 rd2 rd3 rd4 dy0 dy1 dy2 dy3 dy4 dy5 pa0 pa1 pa2 im0 im1 im2 pl0 pl1 pl2 pl3 pl4 pl5 pl6 pl7 pl8 er0 er1 er2 bk0 bk1 bk2 dr0 sh0 sh1 sh2 sh3 sh4 sh5 sh6 sh7 sh8 sp0 sp1 sp2 sp3 sp4 sp5 sp6 sp7 sp8)) gL_law_X9_tear rfl (by decide +kernel) ⟨(Nat.le_of_ble_eq_true rfl), (Nat.le_of_ble_eq_true rfl)⟩ 0 rfl rfl rfl rfl (Nat.le_of_ble_eq_true rfl) (Nat.le_of_ble_eq_true rfl) (Nat.le_of_ble_eq_true rfl) dL_law_850 ?_
  refine s_aload_n X (pc := 853) (x := (ad 0)) 1 dL_law_853 rfl ?_
  refine s_callVi0 X (pc := 854) (cells := 68) (slots := 1925) (r := rX10_tear a31 a34) (w := wC G AD (AD 8 0) (AD 9 0) rd0 rd1 rd2 rd3 rd4 dy0 dy1 dy2 dy3 dy4 dy5 pa0 pa1 pa2 im0 im1 im2 pl0 pl1 pl2 pl3 pl4 pl5 pl6 pl7 pl8 er0 er1 sX9_tear_o5_2 bk0 bk1 sX9_tear_o6_2 dr0 sh0 sh1 sh2 sh3 sh4 sh5 sh6 sh7 sh8 sp0 sp1 sp2 sp3 sp4 sp5 sp6 sp7 sp8 ++ wX10 G ad a0 a1 a2 a3 a4 a5 a6 a7 a8 a9 a10 a11 a12 a13 a14 a15 a16 a17 a18 a19 a20 a21 a22 a23 a24 a25 a26 a27 a28 a29 a30 a31 a32 a33 a34 a35 a36 a37 a38) (n := 0) (st := [.int (rX9_tear er2 bk2)]) (As := []) (w2 := wC G AD (AD 8 0) (AD 9 0) rd0 rd1 rd2 rd3 rd4 dy0 dy1 dy2 dy3 dy4 dy5 pa0 pa1 pa2 im0 im1 im2 pl0 pl1 pl2 pl3 pl4 pl5 pl6 pl7 pl8 er0 er1 sX9_tear_o5_2 bk0 bk1 sX9_tear_o6_2 dr0 sh0 sh1 sh2 sh3 sh4 sh5 sh6 sh7 sh8 sp0 sp1 sp2 sp3 sp4 sp5 sp6 sp7 sp8 ++ wX10 G ad a0 a1 a2 a3 a4 a5 a6 a7 a8 a9 a10 a11 a12 a13 a14 a15 a16 a17 a18 a19 a20 a21 a22 a23 a24 a25 a26 a27 a28 a29 a30 sX10_tear_31 a32 a33 sX10_tear_34 a35 a36 a37 a38) 0 (ci_fr List.perm_append_comm List.perm_append_comm [ad 0, ad 2, ad 4, ad 6, ad 7, ad 8, ad 9, ad 10, ad 12, ad 19, ad 21, ad 23, ad 24, ad 25, ad 26, ad 28, ad 29, ad 30, ad 31, ad 33, ad 34, ad 36, ad 37, ad 38, ad 39] rfl rfl (c_X10_tear l G ad a0 a1 a2 a3 a4 a5 a6 a7 a8 a9 a10 a11 a12 a13 a14 a15 a16 a17 a18 a19 a20 a21 a22 a23 a24 a25 a26 a27 a28 a29 a30 a31 a32 a33 a34 a35 a36 a37 a38)) gL_law_X10_tear rfl (by decide +kernel) ⟨(Nat.le_of_ble_eq_true rfl), (Nat.le_of_ble_eq_true rfl)⟩ 43 rfl rfl rfl rfl (Nat.le_of_ble_eq_true rfl) (Nat.le_of_ble_eq_true rfl) (Nat.le_of_ble_eq_true rfl) dL_law_854 ?_
  refine s_icmp_eq X (pc := 857) (tgt := 944) dL_law_857 (by decide) (fun cq => ?_) (fun cq => absurd EE.1 cq)
  exact K (AD := AD) EE.2

set_option maxRecDepth 100000 in
set_option maxHeartbeats 4000000 in
theorem law_judge {p : Program} {l : Launch} {e : Env} {s : State} {m : MethodId} {below : List Frame} {meth : Method} {c : Code} {G : GT} {b L : Nat} {xs : Nat → Int32} (X : Cx p room_1 s m #[Value.ref b] meth c G (fun q : Nat => s.heap.size ≤ q) 4 cL_law wsL_law RL (some .boolean)) (hX : va_X b L xs s s.heap) (hbl : b < s.heap.size) {k : Nat} (hk : k + 5 ≤ L) (hL : L ≤ 320) {AD : Nat → Nat → Nat} {ad : Nat → Nat} {rd0 : Nat → Int32} {rd1 rd2 rd3 rd4 : Int32} {dy0 dy1 dy2 dy3 dy4 : Nat → Int32} {dy5 : Int32} {pa0 : Nat → Int32} {pa1 pa2 : Int32} {im0 im1 im2 pl0 pl1 pl2 pl3 pl4 pl5 : Nat → Int32} {pl6 pl7 pl8 : Int32} {er0 er1 : Nat → Int32} {er2 : Int32} {bk0 bk1 : Nat → Int32} {bk2 dr0 : Int32} {sh0 sh1 sh2 sh3 sh4 sh5 : Nat → Int32} {sh6 sh7 sh8 : Int32} {sp0 sp1 sp2 sp3 sp4 sp5 : Nat → Int32} {sp6 sp7 sp8 a0 : Int32} {a1 : Nat → Int32} {a2 : Int32} {a3 : Nat → Int32} {a4 : Int32} {a5 a6 a7 a8 a9 : Nat → Int32} {a10 : Int32} {a11 : Nat → Int32} {a12 a13 a14 a15 a16 a17 : Int32} {a18 : Nat → Int32} {a19 : Int32} {a20 : Nat → Int32} {a21 : Int32} {a22 a23 a24 a25 : Nat → Int32} {a26 : Int32} {a27 a28 a29 a30 : Nat → Int32} {a31 : Int32} {a32 a33 : Nat → Int32} {a34 : Int32} {a35 a36 a37 a38 : Nat → Int32} (hRel : Rel rd0 rd1 rd2 rd3 rd4 dy0 dy1 dy2 dy3 dy4 dy5 pa0 pa1 pa2 im0 im1 im2 pl0 pl1 pl2 pl3 pl4 pl5 pl6 pl7 pl8 er0 er1 er2 bk0 bk1 bk2 dr0 sh0 sh1 sh2 sh3 sh4 sh5 sh6 sh7 sh8 sp0 sp1 sp2 sp3 sp4 sp5 sp6 sp7 sp8 a0 a1 a2 a3 a4 a5 a6 a7 a8 a9 a10 a11 a12 a13 a14 a15 a16 a17 a18 a19 a20 a21 a22 a23 a24 a25 a26 a27 a28 a29 a30 a31 a32 a33 a34 a35 a36 a37 a38) (K : ∀ {AD : Nat → Nat → Nat} {rd0 : Nat → Int32} {rd1 rd2 rd3 rd4 : Int32} {dy0 dy1 dy2 dy3 dy4 : Nat → Int32} {dy5 : Int32} {pa0 : Nat → Int32} {pa1 pa2 : Int32} {im0 im1 im2 pl0 pl1 pl2 pl3 pl4 pl5 : Nat → Int32} {pl6 pl7 pl8 : Int32} {er0 er1 : Nat → Int32} {er2 : Int32} {bk0 bk1 : Nat → Int32} {bk2 dr0 : Int32} {sh0 sh1 sh2 sh3 sh4 sh5 : Nat → Int32} {sh6 sh7 sh8 : Int32} {sp0 sp1 sp2 sp3 sp4 sp5 : Nat → Int32} {sp6 sp7 sp8 a0 : Int32} {a1 : Nat → Int32} {a2 : Int32} {a3 : Nat → Int32} {a4 : Int32} {a5 a6 a7 a8 a9 : Nat → Int32} {a10 : Int32} {a11 : Nat → Int32} {a12 a13 a14 a15 a16 a17 : Int32} {a18 : Nat → Int32} {a19 : Int32} {a20 : Nat → Int32} {a21 : Int32} {a22 a23 a24 a25 : Nat → Int32} {a26 : Int32} {a27 a28 a29 a30 : Nat → Int32} {a31 : Int32} {a32 a33 : Nat → Int32} {a34 : Int32} {a35 a36 a37 a38 : Nat → Int32}, Rel rd0 rd1 rd2 rd3 rd4 dy0 dy1 dy2 dy3 dy4 dy5 pa0 pa1 pa2 im0 im1 im2 pl0 pl1 pl2 pl3 pl4 pl5 pl6 pl7 pl8 er0 er1 er2 bk0 bk1 bk2 dr0 sh0 sh1 sh2 sh3 sh4 sh5 sh6 sh7 sh8 sp0 sp1 sp2 sp3 sp4 sp5 sp6 sp7 sp8 a0 a1 a2 a3 a4 a5 a6 a7 a8 a9 a10 a11 a12 a13 a14 a15 a16 a17 a18 a19 a20 a21 a22 a23 a24 a25 a26 a27 a28 a29 a30 a31 a32 a33 a34 a35 a36 a37 a38 → Sm p l e room_1 s m #[Value.ref b] below meth c G (fun q : Nat => s.heap.size ≤ q) 4 68 1925 (lw_Z below #[Value.ref b] s) 944 [(3, .int (nI k)), (2, .ref (ad 0)), (1, .ref (AD 10 0)), (0, .ref b)] [] (wC G AD (AD 8 0) (AD 9 0) rd0 rd1 rd2 rd3 rd4 dy0 dy1 dy2 dy3 dy4 dy5 pa0 pa1 pa2 im0 im1 im2 pl0 pl1 pl2 pl3 pl4 pl5 pl6 pl7 pl8 er0 er1 er2 bk0 bk1 bk2 dr0 sh0 sh1 sh2 sh3 sh4 sh5 sh6 sh7 sh8 sp0 sp1 sp2 sp3 sp4 sp5 sp6 sp7 sp8 ++ wX10 G ad a0 a1 a2 a3 a4 a5 a6 a7 a8 a9 a10 a11 a12 a13 a14 a15 a16 a17 a18 a19 a20 a21 a22 a23 a24 a25 a26 a27 a28 a29 a30 a31 a32 a33 a34 a35 a36 a37 a38)) : Sm p l e room_1 s m #[Value.ref b] below meth c G (fun q : Nat => s.heap.size ≤ q) 4 68 1925 (lw_Z below #[Value.ref b] s) 862 [(3, .int (nI k)), (2, .ref (ad 0)), (1, .ref (AD 10 0)), (0, .ref b)] [] (wC G AD (AD 8 0) (AD 9 0) rd0 rd1 rd2 rd3 rd4 dy0 dy1 dy2 dy3 dy4 dy5 pa0 pa1 pa2 im0 im1 im2 pl0 pl1 pl2 pl3 pl4 pl5 pl6 pl7 pl8 er0 er1 er2 bk0 bk1 bk2 dr0 sh0 sh1 sh2 sh3 sh4 sh5 sh6 sh7 sh8 sp0 sp1 sp2 sp3 sp4 sp5 sp6 sp7 sp8 ++ wX10 G ad a0 a1 a2 a3 a4 a5 a6 a7 a8 a9 a10 a11 a12 a13 a14 a15 a16 a17 a18 a19 a20 a21 a22 a23 a24 a25 a26 a27 a28 a29 a30 a31 a32 a33 a34 a35 a36 a37 a38) := by
  obtain ⟨hT, hF, hB, hD, hI, hP, hM, hE, hK, hS, s0⟩ := hRel
  have k_t0 : 0 ≤ a0 := hB.2.1.1
  have k_t12 : a0 ≤ 12 := hB.2.1.2
  have k_h0 : 0 ≤ a2 := hB.2.2.1.1
  have k_h4 : a2 ≤ 4 := hB.2.2.1.2
  have k_ca : 0 ≤ a4 := hB.2.2.2.1.1
  have k_cb : a4 ≤ 5 := hB.2.2.2.1.2
  have k_th : 0 < a2 → 0 < a0 := hB.2.2.2.2.1
  have k_tc : 0 < a4 → 0 < a0 := hB.2.2.2.2.2.1
  have c_t12 : sh6 ≤ 12 := by rw [hB.1.1]; exact k_t12
  have c_h0 : 0 ≤ sh7 := by rw [hB.1.2.1]; exact k_h0
  have c_h4 : sh7 ≤ 4 := by rw [hB.1.2.1]; exact k_h4
  have c_ca : 0 ≤ sh8 := by rw [hB.1.2.2]; exact k_ca
  have c_cb : sh8 ≤ 5 := by rw [hB.1.2.2]; exact k_cb
  have hc5 := clampLe (n := 5) (b := 5) rfl k_ca k_cb
  have k_n0 : 0 ≤ a9 22 := hI.1.1
  have k_n9 : a9 22 ≤ 9060 := Int32.le_iff_toInt_le.mpr hI.1.2
  have k_NI : NI 9060 a9 := DI_NI hc5 hI
  have k_u0 : 0 ≤ a26 := hP.2.1
  have k_u20 : a26 ≤ 20 := hP.2.2.1
  have c_u0 : 0 ≤ pa1 := hP.2.2.2.1
  have c_u20 : pa1 < 20 := hP.2.2.2.2.1
  have k_x0 : 0 ≤ a12 := hT.2.1
  have k_x240 : a12 ≤ 240 := hT.2.2.1
  have c_x0 : 0 ≤ rd2 := by rw [hT.1]; exact k_x0
  have c_x240 : rd2 ≤ 240 := by rw [hT.1]; exact k_x240
  have k_e0 : 0 ≤ a31 := hE.2.1
  have k_e6 : a31 ≤ 6 := hE.2.2.1
  have c_e0 : 0 ≤ er2 := by rw [hE.1]; exact k_e0
  have c_e6 : er2 ≤ 6 := by rw [hE.1]; exact k_e6
  have k_b0 : 0 ≤ a34 := hK.2.1
  have k_b15 : a34 ≤ 15 := hK.2.2.1
  have c_b0 : 0 ≤ bk2 := by rw [hK.1]; exact k_b0
  have c_b15 : bk2 ≤ 15 := by rw [hK.1]; exact k_b15
  have k_bk : ∀ j : Nat, j < a34.toNatClampNeg → vp_in (a35 j) 5 := fun j hj => by
    have z := hK.2.2.2 j hj
    rw [cl_nI _ z.2.2.1]
    exact vp_in_nI (by omega) (by decide)
  have c_bk : ∀ j : Nat, j < bk2.toNatClampNeg → vp_in (bk0 j) 5 := fun j hj => by
    rw [hK.1] at hj
    rw [(hK.2.2.2 j hj).1]
    exact k_bk j hj
  have c_hL : ∀ j : Nat, j < 5 → ¬ rX0_hasCase sh8 (nI j) = 0 → 1 ≤ sh3 j ∧ sh3 j ≤ 4 := fun j h5 hj => hL_of hB h5 hj
  have EE : rX9_judge dy3 bk0 bk1 bk2 = rX10_judge a9 a34 a35 a36 ∧ Rel rd0 rd1 rd2 rd3 rd4 dy0 dy1 dy2 dy3 dy4 dy5 pa0 pa1 pa2 im0 im1 im2 pl0 pl1 pl2 pl3 pl4 pl5 pl6 pl7 pl8 er0 er1 er2 bk0 bk1 bk2 dr0 sh0 sh1 sh2 sh3 sh4 sh5 sh6 sh7 sh8 sp0 sp1 sp2 sp3 sp4 sp5 sp6 sp7 sp8 a0 a1 a2 a3 a4 a5 a6 a7 a8 a9 a10 a11 a12 a13 a14 a15 a16 a17 a18 a19 a20 a21 a22 a23 a24 a25 a26 a27 a28 a29 a30 a31 a32 a33 a34 a35 a36 a37 a38 := by
    exact ⟨e_judge hc5 hD hK, hT, hF, hB, hD, hI, hP, hM, hE, hK, hS, s0⟩
  refine s_aload_n X (pc := 862) (x := (AD 10 0)) 2 dL_law_862 rfl ?_
  refine s_callVi0 X (pc := 863) (cells := 68) (slots := 1925) (r := rX9_judge dy3 bk0 bk1 bk2) (w := wC G AD (AD 8 0) (AD 9 0) rd0 rd1 rd2 rd3 rd4 dy0 dy1 dy2 dy3 dy4 dy5 pa0 pa1 pa2 im0 im1 im2 pl0 pl1 pl2 pl3 pl4 pl5 pl6 pl7 pl8 er0 er1 er2 bk0 bk1 bk2 dr0 sh0 sh1 sh2 sh3 sh4 sh5 sh6 sh7 sh8 sp0 sp1 sp2 sp3 sp4 sp5 sp6 sp7 sp8 ++ wX10 G ad a0 a1 a2 a3 a4 a5 a6 a7 a8 a9 a10 a11 a12 a13 a14 a15 a16 a17 a18 a19 a20 a21 a22 a23 a24 a25 a26 a27 a28 a29 a30 a31 a32 a33 a34 a35 a36 a37 a38) (n := 0) (st := []) (As := []) (w2 := wC G AD (AD 8 0) (AD 9 0) rd0 rd1 rd2 rd3 rd4 dy0 dy1 dy2 dy3 dy4 dy5 pa0 pa1 pa2 im0 im1 im2 pl0 pl1 pl2 pl3 pl4 pl5 pl6 pl7 pl8 er0 er1 er2 bk0 bk1 bk2 dr0 sh0 sh1 sh2 sh3 sh4 sh5 sh6 sh7 sh8 sp0 sp1 sp2 sp3 sp4 sp5 sp6 sp7 sp8 ++ wX10 G ad a0 a1 a2 a3 a4 a5 a6 a7 a8 a9 a10 a11 a12 a13 a14 a15 a16 a17 a18 a19 a20 a21 a22 a23 a24 a25 a26 a27 a28 a29 a30 a31 a32 a33 a34 a35 a36 a37 a38) 1 (ci_fr (List.Perm.refl _) (List.Perm.refl _) [AD 10 0, AD 0 0, AD 0 1, AD 1 0, AD 1 1, AD 1 2, AD 1 3, AD 1 4, AD 1 5, AD 2 0, AD 2 1, AD 3 0, AD 3 1, AD 3 2, AD 3 3, AD 4 0, AD 4 1, AD 4 2, AD 4 3, AD 4 4, AD 4 5, AD 4 6, AD 5 0, AD 5 1, AD 5 2, AD 6 0, AD 6 1, AD 6 2, AD 7 0, AD 8 0, AD 8 1, AD 8 2, AD 8 3, AD 8 4, AD 8 5, AD 8 6, AD 9 0, AD 9 1, AD 9 2, AD 9 3, AD 9 4, AD 9 5, AD 9 6] rfl rfl (c_X9_judge l G AD rd0 rd1 rd2 rd3 rd4 dy0 dy1 dy2 dy3 dy4 dy5 pa0 pa1 pa2 im0 im1 im2 pl0 pl1 pl2 pl3 pl4 pl5 pl6 pl7 pl8 er0 er1 er2 bk0 bk1 bk2 dr0 sh0 sh1 sh2 sh3 sh4 sh5 sh6 sh7 sh8 sp0 sp1 sp2 sp3 sp4 sp5 sp6 sp7 sp8 (by with_reducible assumption) (by with_reducible assumption) (by with_reducible assumption))) gL_law_X9_judge rfl (by decide +kernel) ⟨(Nat.le_of_ble_eq_true rfl), (Nat.le_of_ble_eq_true rfl)⟩ 0 rfl rfl rfl rfl (Nat.le_of_ble_eq_true rfl) (Nat.le_of_ble_eq_true rfl) (Nat.le_of_ble_eq_true rfl) dL_law_863 ?_
  refine s_aload_n X (pc := 866) (x := (ad 0)) 1 dL_law_866 rfl ?_
  refine s_callVi0 X (pc := 867) (cells := 68) (slots := 1925) (r := rX10_judge a9 a34 a35 a36) (w := wC G AD (AD 8 0) (AD 9 0) rd0 rd1 rd2 rd3 rd4 dy0 dy1 dy2 dy3 dy4 dy5 pa0 pa1 pa2 im0 im1 im2 pl0 pl1 pl2 pl3 pl4 pl5 pl6 pl7 pl8 er0 er1 er2 bk0 bk1 bk2 dr0 sh0 sh1 sh2 sh3 sh4 sh5 sh6 sh7 sh8 sp0 sp1 sp2 sp3 sp4 sp5 sp6 sp7 sp8 ++ wX10 G ad a0 a1 a2 a3 a4 a5 a6 a7 a8 a9 a10 a11 a12 a13 a14 a15 a16 a17 a18 a19 a20 a21 a22 a23 a24 a25 a26 a27 a28 a29 a30 a31 a32 a33 a34 a35 a36 a37 a38) (n := 0) (st := [.int (rX9_judge dy3 bk0 bk1 bk2)]) (As := []) (w2 := wC G AD (AD 8 0) (AD 9 0) rd0 rd1 rd2 rd3 rd4 dy0 dy1 dy2 dy3 dy4 dy5 pa0 pa1 pa2 im0 im1 im2 pl0 pl1 pl2 pl3 pl4 pl5 pl6 pl7 pl8 er0 er1 er2 bk0 bk1 bk2 dr0 sh0 sh1 sh2 sh3 sh4 sh5 sh6 sh7 sh8 sp0 sp1 sp2 sp3 sp4 sp5 sp6 sp7 sp8 ++ wX10 G ad a0 a1 a2 a3 a4 a5 a6 a7 a8 a9 a10 a11 a12 a13 a14 a15 a16 a17 a18 a19 a20 a21 a22 a23 a24 a25 a26 a27 a28 a29 a30 a31 a32 a33 a34 a35 a36 a37 a38) 0 (ci_fr List.perm_append_comm List.perm_append_comm [ad 0, ad 2, ad 4, ad 6, ad 7, ad 8, ad 9, ad 10, ad 12, ad 19, ad 21, ad 23, ad 24, ad 25, ad 26, ad 28, ad 29, ad 30, ad 31, ad 33, ad 34, ad 36, ad 37, ad 38, ad 39] rfl rfl (c_X10_judge l G ad a0 a1 a2 a3 a4 a5 a6 a7 a8 a9 a10 a11 a12 a13 a14 a15 a16 a17 a18 a19 a20 a21 a22 a23 a24 a25 a26 a27 a28 a29 a30 a31 a32 a33 a34 a35 a36 a37 a38 (by with_reducible assumption) (by with_reducible assumption) (by with_reducible assumption))) gL_law_X10_judge rfl (by decide +kernel) ⟨(Nat.le_of_ble_eq_true rfl), (Nat.le_of_ble_eq_true rfl)⟩ 43 rfl rfl rfl rfl (Nat.le_of_ble_eq_true rfl) (Nat.le_of_ble_eq_true rfl) (Nat.le_of_ble_eq_true rfl) dL_law_867 ?_
  refine s_icmp_eq X (pc := 870) (tgt := 944) dL_law_870 (by decide) (fun cq => ?_) (fun cq => absurd EE.1 cq)
  exact K (AD := AD) EE.2

set_option maxRecDepth 100000 in
set_option maxHeartbeats 4000000 in
theorem law_seed {p : Program} {l : Launch} {e : Env} {s : State} {m : MethodId} {below : List Frame} {meth : Method} {c : Code} {G : GT} {b L : Nat} {xs : Nat → Int32} (X : Cx p room_1 s m #[Value.ref b] meth c G (fun q : Nat => s.heap.size ≤ q) 4 cL_law wsL_law RL (some .boolean)) (hX : va_X b L xs s s.heap) (hbl : b < s.heap.size) {k : Nat} (hk : k + 5 ≤ L) (hL : L ≤ 320) {AD : Nat → Nat → Nat} {ad : Nat → Nat} {rd0 : Nat → Int32} {rd1 rd2 rd3 rd4 : Int32} {dy0 dy1 dy2 dy3 dy4 : Nat → Int32} {dy5 : Int32} {pa0 : Nat → Int32} {pa1 pa2 : Int32} {im0 im1 im2 pl0 pl1 pl2 pl3 pl4 pl5 : Nat → Int32} {pl6 pl7 pl8 : Int32} {er0 er1 : Nat → Int32} {er2 : Int32} {bk0 bk1 : Nat → Int32} {bk2 dr0 : Int32} {sh0 sh1 sh2 sh3 sh4 sh5 : Nat → Int32} {sh6 sh7 sh8 : Int32} {sp0 sp1 sp2 sp3 sp4 sp5 : Nat → Int32} {sp6 sp7 sp8 a0 : Int32} {a1 : Nat → Int32} {a2 : Int32} {a3 : Nat → Int32} {a4 : Int32} {a5 a6 a7 a8 a9 : Nat → Int32} {a10 : Int32} {a11 : Nat → Int32} {a12 a13 a14 a15 a16 a17 : Int32} {a18 : Nat → Int32} {a19 : Int32} {a20 : Nat → Int32} {a21 : Int32} {a22 a23 a24 a25 : Nat → Int32} {a26 : Int32} {a27 a28 a29 a30 : Nat → Int32} {a31 : Int32} {a32 a33 : Nat → Int32} {a34 : Int32} {a35 a36 a37 a38 : Nat → Int32} (hRel : Rel rd0 rd1 rd2 rd3 rd4 dy0 dy1 dy2 dy3 dy4 dy5 pa0 pa1 pa2 im0 im1 im2 pl0 pl1 pl2 pl3 pl4 pl5 pl6 pl7 pl8 er0 er1 er2 bk0 bk1 bk2 dr0 sh0 sh1 sh2 sh3 sh4 sh5 sh6 sh7 sh8 sp0 sp1 sp2 sp3 sp4 sp5 sp6 sp7 sp8 a0 a1 a2 a3 a4 a5 a6 a7 a8 a9 a10 a11 a12 a13 a14 a15 a16 a17 a18 a19 a20 a21 a22 a23 a24 a25 a26 a27 a28 a29 a30 a31 a32 a33 a34 a35 a36 a37 a38) (K : ∀ {AD : Nat → Nat → Nat} {rd0 : Nat → Int32} {rd1 rd2 rd3 rd4 : Int32} {dy0 dy1 dy2 dy3 dy4 : Nat → Int32} {dy5 : Int32} {pa0 : Nat → Int32} {pa1 pa2 : Int32} {im0 im1 im2 pl0 pl1 pl2 pl3 pl4 pl5 : Nat → Int32} {pl6 pl7 pl8 : Int32} {er0 er1 : Nat → Int32} {er2 : Int32} {bk0 bk1 : Nat → Int32} {bk2 dr0 : Int32} {sh0 sh1 sh2 sh3 sh4 sh5 : Nat → Int32} {sh6 sh7 sh8 : Int32} {sp0 sp1 sp2 sp3 sp4 sp5 : Nat → Int32} {sp6 sp7 sp8 a0 : Int32} {a1 : Nat → Int32} {a2 : Int32} {a3 : Nat → Int32} {a4 : Int32} {a5 a6 a7 a8 a9 : Nat → Int32} {a10 : Int32} {a11 : Nat → Int32} {a12 a13 a14 a15 a16 a17 : Int32} {a18 : Nat → Int32} {a19 : Int32} {a20 : Nat → Int32} {a21 : Int32} {a22 a23 a24 a25 : Nat → Int32} {a26 : Int32} {a27 a28 a29 a30 : Nat → Int32} {a31 : Int32} {a32 a33 : Nat → Int32} {a34 : Int32} {a35 a36 a37 a38 : Nat → Int32}, Rel rd0 rd1 rd2 rd3 rd4 dy0 dy1 dy2 dy3 dy4 dy5 pa0 pa1 pa2 im0 im1 im2 pl0 pl1 pl2 pl3 pl4 pl5 pl6 pl7 pl8 er0 er1 er2 bk0 bk1 bk2 dr0 sh0 sh1 sh2 sh3 sh4 sh5 sh6 sh7 sh8 sp0 sp1 sp2 sp3 sp4 sp5 sp6 sp7 sp8 a0 a1 a2 a3 a4 a5 a6 a7 a8 a9 a10 a11 a12 a13 a14 a15 a16 a17 a18 a19 a20 a21 a22 a23 a24 a25 a26 a27 a28 a29 a30 a31 a32 a33 a34 a35 a36 a37 a38 → Sm p l e room_1 s m #[Value.ref b] below meth c G (fun q : Nat => s.heap.size ≤ q) 4 68 1925 (lw_Z below #[Value.ref b] s) 944 [(3, .int (nI k)), (2, .ref (ad 0)), (1, .ref (AD 10 0)), (0, .ref b)] [] (wC G AD (AD 8 0) (AD 9 0) rd0 rd1 rd2 rd3 rd4 dy0 dy1 dy2 dy3 dy4 dy5 pa0 pa1 pa2 im0 im1 im2 pl0 pl1 pl2 pl3 pl4 pl5 pl6 pl7 pl8 er0 er1 er2 bk0 bk1 bk2 dr0 sh0 sh1 sh2 sh3 sh4 sh5 sh6 sh7 sh8 sp0 sp1 sp2 sp3 sp4 sp5 sp6 sp7 sp8 ++ wX10 G ad a0 a1 a2 a3 a4 a5 a6 a7 a8 a9 a10 a11 a12 a13 a14 a15 a16 a17 a18 a19 a20 a21 a22 a23 a24 a25 a26 a27 a28 a29 a30 a31 a32 a33 a34 a35 a36 a37 a38)) : Sm p l e room_1 s m #[Value.ref b] below meth c G (fun q : Nat => s.heap.size ≤ q) 4 68 1925 (lw_Z below #[Value.ref b] s) 875 [(3, .int (nI k)), (2, .ref (ad 0)), (1, .ref (AD 10 0)), (0, .ref b)] [] (wC G AD (AD 8 0) (AD 9 0) rd0 rd1 rd2 rd3 rd4 dy0 dy1 dy2 dy3 dy4 dy5 pa0 pa1 pa2 im0 im1 im2 pl0 pl1 pl2 pl3 pl4 pl5 pl6 pl7 pl8 er0 er1 er2 bk0 bk1 bk2 dr0 sh0 sh1 sh2 sh3 sh4 sh5 sh6 sh7 sh8 sp0 sp1 sp2 sp3 sp4 sp5 sp6 sp7 sp8 ++ wX10 G ad a0 a1 a2 a3 a4 a5 a6 a7 a8 a9 a10 a11 a12 a13 a14 a15 a16 a17 a18 a19 a20 a21 a22 a23 a24 a25 a26 a27 a28 a29 a30 a31 a32 a33 a34 a35 a36 a37 a38) := by
  obtain ⟨hT, hF, hB, hD, hI, hP, hM, hE, hK, hS, s0⟩ := hRel
  have k_t0 : 0 ≤ a0 := hB.2.1.1
  have k_t12 : a0 ≤ 12 := hB.2.1.2
  have k_h0 : 0 ≤ a2 := hB.2.2.1.1
  have k_h4 : a2 ≤ 4 := hB.2.2.1.2
  have k_ca : 0 ≤ a4 := hB.2.2.2.1.1
  have k_cb : a4 ≤ 5 := hB.2.2.2.1.2
  have k_th : 0 < a2 → 0 < a0 := hB.2.2.2.2.1
  have k_tc : 0 < a4 → 0 < a0 := hB.2.2.2.2.2.1
  have c_t12 : sh6 ≤ 12 := by rw [hB.1.1]; exact k_t12
  have c_h0 : 0 ≤ sh7 := by rw [hB.1.2.1]; exact k_h0
  have c_h4 : sh7 ≤ 4 := by rw [hB.1.2.1]; exact k_h4
  have c_ca : 0 ≤ sh8 := by rw [hB.1.2.2]; exact k_ca
  have c_cb : sh8 ≤ 5 := by rw [hB.1.2.2]; exact k_cb
  have hc5 := clampLe (n := 5) (b := 5) rfl k_ca k_cb
  have k_n0 : 0 ≤ a9 22 := hI.1.1
  have k_n9 : a9 22 ≤ 9060 := Int32.le_iff_toInt_le.mpr hI.1.2
  have k_NI : NI 9060 a9 := DI_NI hc5 hI
  have k_u0 : 0 ≤ a26 := hP.2.1
  have k_u20 : a26 ≤ 20 := hP.2.2.1
  have c_u0 : 0 ≤ pa1 := hP.2.2.2.1
  have c_u20 : pa1 < 20 := hP.2.2.2.2.1
  have k_x0 : 0 ≤ a12 := hT.2.1
  have k_x240 : a12 ≤ 240 := hT.2.2.1
  have c_x0 : 0 ≤ rd2 := by rw [hT.1]; exact k_x0
  have c_x240 : rd2 ≤ 240 := by rw [hT.1]; exact k_x240
  have k_e0 : 0 ≤ a31 := hE.2.1
  have k_e6 : a31 ≤ 6 := hE.2.2.1
  have c_e0 : 0 ≤ er2 := by rw [hE.1]; exact k_e0
  have c_e6 : er2 ≤ 6 := by rw [hE.1]; exact k_e6
  have k_b0 : 0 ≤ a34 := hK.2.1
  have k_b15 : a34 ≤ 15 := hK.2.2.1
  have c_b0 : 0 ≤ bk2 := by rw [hK.1]; exact k_b0
  have c_b15 : bk2 ≤ 15 := by rw [hK.1]; exact k_b15
  have k_bk : ∀ j : Nat, j < a34.toNatClampNeg → vp_in (a35 j) 5 := fun j hj => by
    have z := hK.2.2.2 j hj
    rw [cl_nI _ z.2.2.1]
    exact vp_in_nI (by omega) (by decide)
  have c_bk : ∀ j : Nat, j < bk2.toNatClampNeg → vp_in (bk0 j) 5 := fun j hj => by
    rw [hK.1] at hj
    rw [(hK.2.2.2 j hj).1]
    exact k_bk j hj
  have c_hL : ∀ j : Nat, j < 5 → ¬ rX0_hasCase sh8 (nI j) = 0 → 1 ≤ sh3 j ∧ sh3 j ≤ 4 := fun j h5 hj => hL_of hB h5 hj
  have EE : rX9_seed dr0 (xs (nI k + (1 : Int32)).toNatClampNeg) = rX10_seed a10 (xs (nI k + (1 : Int32)).toNatClampNeg) ∧ Rel rd0 rd1 rd2 rd3 rd4 dy0 dy1 dy2 dy3 dy4 dy5 pa0 pa1 pa2 im0 im1 im2 pl0 pl1 pl2 pl3 pl4 pl5 pl6 pl7 pl8 er0 er1 er2 bk0 bk1 bk2 (sX9_seed_o7_0 dr0 (xs (nI k + (1 : Int32)).toNatClampNeg)) sh0 sh1 sh2 sh3 sh4 sh5 sh6 sh7 sh8 sp0 sp1 sp2 sp3 sp4 sp5 sp6 sp7 sp8 a0 a1 a2 a3 a4 a5 a6 a7 a8 a9 (sX10_seed_10 a10 (xs (nI k + (1 : Int32)).toNatClampNeg)) a11 a12 a13 a14 a15 a16 a17 a18 a19 a20 a21 a22 a23 a24 a25 a26 a27 a28 a29 a30 a31 a32 a33 a34 a35 a36 a37 a38 := by
    unfold rX9_seed rX10_seed sX9_seed_o7_0 sX10_seed_10
    by_cases q : 0 ≤ (xs (nI k + (1 : Int32)).toNatClampNeg)
    · simp only [if_pos q]
      exact ⟨hS, hT, hF, hB, hD, hI, hP, hM, hE, hK, rfl, q⟩
    · simp only [if_neg q]
      exact ⟨trivial, hT, hF, hB, hD, hI, hP, hM, hE, hK, hS, s0⟩
  refine s_aload_n X (pc := 875) (x := (AD 10 0)) 2 dL_law_875 rfl ?_
  refine s_aload_n X (pc := 876) (x := b) 3 dL_law_876 rfl ?_
  refine s_iload_n X (pc := 877) (x := nI k) 0 dL_law_877 rfl ?_
  refine s_iconst X (pc := 878) (v := 1) dL_law_878 (by decide) ?_
  refine s_iadd X (pc := 879) dL_law_879 ?_
  refine s_sld X (pc := 880) hX hbl (ix5 (j := 1) rfl (by decide) hk hL) dL_law_880 ?_
  refine s_callVi0 X (pc := 881) (cells := 68) (slots := 1925) (r := rX9_seed dr0 (xs (nI k + (1 : Int32)).toNatClampNeg)) (w := wC G AD (AD 8 0) (AD 9 0) rd0 rd1 rd2 rd3 rd4 dy0 dy1 dy2 dy3 dy4 dy5 pa0 pa1 pa2 im0 im1 im2 pl0 pl1 pl2 pl3 pl4 pl5 pl6 pl7 pl8 er0 er1 er2 bk0 bk1 bk2 dr0 sh0 sh1 sh2 sh3 sh4 sh5 sh6 sh7 sh8 sp0 sp1 sp2 sp3 sp4 sp5 sp6 sp7 sp8 ++ wX10 G ad a0 a1 a2 a3 a4 a5 a6 a7 a8 a9 a10 a11 a12 a13 a14 a15 a16 a17 a18 a19 a20 a21 a22 a23 a24 a25 a26 a27 a28 a29 a30 a31 a32 a33 a34 a35 a36 a37 a38) (n := 1) (st := []) (As := [.int (xs (nI k + (1 : Int32)).toNatClampNeg)]) (w2 := wC G AD (AD 8 0) (AD 9 0) rd0 rd1 rd2 rd3 rd4 dy0 dy1 dy2 dy3 dy4 dy5 pa0 pa1 pa2 im0 im1 im2 pl0 pl1 pl2 pl3 pl4 pl5 pl6 pl7 pl8 er0 er1 er2 bk0 bk1 bk2 (sX9_seed_o7_0 dr0 (xs (nI k + (1 : Int32)).toNatClampNeg)) sh0 sh1 sh2 sh3 sh4 sh5 sh6 sh7 sh8 sp0 sp1 sp2 sp3 sp4 sp5 sp6 sp7 sp8 ++ wX10 G ad a0 a1 a2 a3 a4 a5 a6 a7 a8 a9 a10 a11 a12 a13 a14 a15 a16 a17 a18 a19 a20 a21 a22 a23 a24 a25 a26 a27 a28 a29 a30 a31 a32 a33 a34 a35 a36 a37 a38) 0 (ci_fr (List.Perm.refl _) (List.Perm.refl _) [AD 10 0, AD 0 0, AD 0 1, AD 1 0, AD 1 1, AD 1 2, AD 1 3, AD 1 4, AD 1 5, AD 2 0, AD 2 1, AD 3 0, AD 3 1, AD 3 2, AD 3 3, AD 4 0, AD 4 1, AD 4 2, AD 4 3, AD 4 4, AD 4 5, AD 4 6, AD 5 0, AD 5 1, AD 5 2, AD 6 0, AD 6 1, AD 6 2, AD 7 0, AD 8 0, AD 8 1, AD 8 2, AD 8 3, AD 8 4, AD 8 5, AD 8 6, AD 9 0, AD 9 1, AD 9 2, AD 9 3, AD 9 4, AD 9 5, AD 9 6] rfl rfl (c_X9_seed l G AD rd0 rd1 rd2 rd3 rd4 dy0 dy1 dy2 dy3 dy4 dy5 pa0 pa1 pa2 im0 im1 im2 pl0 pl1 pl2 pl3 pl4 pl5 pl6 pl7 pl8 er0 er1 er2 bk0 bk1 bk2 dr0 sh0 sh1 sh2 sh3 sh4 sh5 sh6 sh7 sh8 sp0 sp1 sp2 sp3 sp4 sp5 sp6 sp7 sp8 (xs (nI k + (1 : Int32)).toNatClampNeg))) gL_law_X9_seed rfl (by decide +kernel) ⟨(Nat.le_of_ble_eq_true rfl), (Nat.le_of_ble_eq_true rfl)⟩ 0 rfl rfl rfl rfl (Nat.le_of_ble_eq_true rfl) (Nat.le_of_ble_eq_true rfl) (Nat.le_of_ble_eq_true rfl) dL_law_881 ?_
  refine s_aload_n X (pc := 884) (x := (ad 0)) 1 dL_law_884 rfl ?_
  refine s_aload_n X (pc := 885) (x := b) 3 dL_law_885 rfl ?_
  refine s_iload_n X (pc := 886) (x := nI k) 0 dL_law_886 rfl ?_
  refine s_iconst X (pc := 887) (v := 1) dL_law_887 (by decide) ?_
  refine s_iadd X (pc := 888) dL_law_888 ?_
  refine s_sld X (pc := 889) hX hbl (ix5 (j := 1) rfl (by decide) hk hL) dL_law_889 ?_
  refine s_callVi0 X (pc := 890) (cells := 68) (slots := 1925) (r := rX10_seed a10 (xs (nI k + (1 : Int32)).toNatClampNeg)) (w := wC G AD (AD 8 0) (AD 9 0) rd0 rd1 rd2 rd3 rd4 dy0 dy1 dy2 dy3 dy4 dy5 pa0 pa1 pa2 im0 im1 im2 pl0 pl1 pl2 pl3 pl4 pl5 pl6 pl7 pl8 er0 er1 er2 bk0 bk1 bk2 (sX9_seed_o7_0 dr0 (xs (nI k + (1 : Int32)).toNatClampNeg)) sh0 sh1 sh2 sh3 sh4 sh5 sh6 sh7 sh8 sp0 sp1 sp2 sp3 sp4 sp5 sp6 sp7 sp8 ++ wX10 G ad a0 a1 a2 a3 a4 a5 a6 a7 a8 a9 a10 a11 a12 a13 a14 a15 a16 a17 a18 a19 a20 a21 a22 a23 a24 a25 a26 a27 a28 a29 a30 a31 a32 a33 a34 a35 a36 a37 a38) (n := 1) (st := [.int (rX9_seed dr0 (xs (nI k + (1 : Int32)).toNatClampNeg))]) (As := [.int (xs (nI k + (1 : Int32)).toNatClampNeg)]) (w2 := wC G AD (AD 8 0) (AD 9 0) rd0 rd1 rd2 rd3 rd4 dy0 dy1 dy2 dy3 dy4 dy5 pa0 pa1 pa2 im0 im1 im2 pl0 pl1 pl2 pl3 pl4 pl5 pl6 pl7 pl8 er0 er1 er2 bk0 bk1 bk2 (sX9_seed_o7_0 dr0 (xs (nI k + (1 : Int32)).toNatClampNeg)) sh0 sh1 sh2 sh3 sh4 sh5 sh6 sh7 sh8 sp0 sp1 sp2 sp3 sp4 sp5 sp6 sp7 sp8 ++ wX10 G ad a0 a1 a2 a3 a4 a5 a6 a7 a8 a9 (sX10_seed_10 a10 (xs (nI k + (1 : Int32)).toNatClampNeg)) a11 a12 a13 a14 a15 a16 a17 a18 a19 a20 a21 a22 a23 a24 a25 a26 a27 a28 a29 a30 a31 a32 a33 a34 a35 a36 a37 a38) 0 (ci_fr List.perm_append_comm List.perm_append_comm [ad 0, ad 2, ad 4, ad 6, ad 7, ad 8, ad 9, ad 10, ad 12, ad 19, ad 21, ad 23, ad 24, ad 25, ad 26, ad 28, ad 29, ad 30, ad 31, ad 33, ad 34, ad 36, ad 37, ad 38, ad 39] rfl rfl (c_X10_seed l G ad a0 a1 a2 a3 a4 a5 a6 a7 a8 a9 a10 a11 a12 a13 a14 a15 a16 a17 a18 a19 a20 a21 a22 a23 a24 a25 a26 a27 a28 a29 a30 a31 a32 a33 a34 a35 a36 a37 a38 (xs (nI k + (1 : Int32)).toNatClampNeg))) gL_law_X10_seed rfl (by decide +kernel) ⟨(Nat.le_of_ble_eq_true rfl), (Nat.le_of_ble_eq_true rfl)⟩ 43 rfl rfl rfl rfl (Nat.le_of_ble_eq_true rfl) (Nat.le_of_ble_eq_true rfl) (Nat.le_of_ble_eq_true rfl) dL_law_890 ?_
  refine s_icmp_eq X (pc := 893) (tgt := 944) dL_law_893 (by decide) (fun cq => ?_) (fun cq => absurd EE.1 cq)
  exact K (AD := AD) EE.2

set_option maxRecDepth 100000 in
set_option maxHeartbeats 4000000 in
theorem law_keep {p : Program} {l : Launch} {e : Env} {s : State} {m : MethodId} {below : List Frame} {meth : Method} {c : Code} {G : GT} {b L : Nat} {xs : Nat → Int32} (X : Cx p room_1 s m #[Value.ref b] meth c G (fun q : Nat => s.heap.size ≤ q) 4 cL_law wsL_law RL (some .boolean)) (hX : va_X b L xs s s.heap) (hbl : b < s.heap.size) {k : Nat} (hk : k + 5 ≤ L) (hL : L ≤ 320) {AD : Nat → Nat → Nat} {ad : Nat → Nat} {rd0 : Nat → Int32} {rd1 rd2 rd3 rd4 : Int32} {dy0 dy1 dy2 dy3 dy4 : Nat → Int32} {dy5 : Int32} {pa0 : Nat → Int32} {pa1 pa2 : Int32} {im0 im1 im2 pl0 pl1 pl2 pl3 pl4 pl5 : Nat → Int32} {pl6 pl7 pl8 : Int32} {er0 er1 : Nat → Int32} {er2 : Int32} {bk0 bk1 : Nat → Int32} {bk2 dr0 : Int32} {sh0 sh1 sh2 sh3 sh4 sh5 : Nat → Int32} {sh6 sh7 sh8 : Int32} {sp0 sp1 sp2 sp3 sp4 sp5 : Nat → Int32} {sp6 sp7 sp8 a0 : Int32} {a1 : Nat → Int32} {a2 : Int32} {a3 : Nat → Int32} {a4 : Int32} {a5 a6 a7 a8 a9 : Nat → Int32} {a10 : Int32} {a11 : Nat → Int32} {a12 a13 a14 a15 a16 a17 : Int32} {a18 : Nat → Int32} {a19 : Int32} {a20 : Nat → Int32} {a21 : Int32} {a22 a23 a24 a25 : Nat → Int32} {a26 : Int32} {a27 a28 a29 a30 : Nat → Int32} {a31 : Int32} {a32 a33 : Nat → Int32} {a34 : Int32} {a35 a36 a37 a38 : Nat → Int32} (hRel : Rel rd0 rd1 rd2 rd3 rd4 dy0 dy1 dy2 dy3 dy4 dy5 pa0 pa1 pa2 im0 im1 im2 pl0 pl1 pl2 pl3 pl4 pl5 pl6 pl7 pl8 er0 er1 er2 bk0 bk1 bk2 dr0 sh0 sh1 sh2 sh3 sh4 sh5 sh6 sh7 sh8 sp0 sp1 sp2 sp3 sp4 sp5 sp6 sp7 sp8 a0 a1 a2 a3 a4 a5 a6 a7 a8 a9 a10 a11 a12 a13 a14 a15 a16 a17 a18 a19 a20 a21 a22 a23 a24 a25 a26 a27 a28 a29 a30 a31 a32 a33 a34 a35 a36 a37 a38) (K : ∀ {AD : Nat → Nat → Nat} {rd0 : Nat → Int32} {rd1 rd2 rd3 rd4 : Int32} {dy0 dy1 dy2 dy3 dy4 : Nat → Int32} {dy5 : Int32} {pa0 : Nat → Int32} {pa1 pa2 : Int32} {im0 im1 im2 pl0 pl1 pl2 pl3 pl4 pl5 : Nat → Int32} {pl6 pl7 pl8 : Int32} {er0 er1 : Nat → Int32} {er2 : Int32} {bk0 bk1 : Nat → Int32} {bk2 dr0 : Int32} {sh0 sh1 sh2 sh3 sh4 sh5 : Nat → Int32} {sh6 sh7 sh8 : Int32} {sp0 sp1 sp2 sp3 sp4 sp5 : Nat → Int32} {sp6 sp7 sp8 a0 : Int32} {a1 : Nat → Int32} {a2 : Int32} {a3 : Nat → Int32} {a4 : Int32} {a5 a6 a7 a8 a9 : Nat → Int32} {a10 : Int32} {a11 : Nat → Int32} {a12 a13 a14 a15 a16 a17 : Int32} {a18 : Nat → Int32} {a19 : Int32} {a20 : Nat → Int32} {a21 : Int32} {a22 a23 a24 a25 : Nat → Int32} {a26 : Int32} {a27 a28 a29 a30 : Nat → Int32} {a31 : Int32} {a32 a33 : Nat → Int32} {a34 : Int32} {a35 a36 a37 a38 : Nat → Int32}, Rel rd0 rd1 rd2 rd3 rd4 dy0 dy1 dy2 dy3 dy4 dy5 pa0 pa1 pa2 im0 im1 im2 pl0 pl1 pl2 pl3 pl4 pl5 pl6 pl7 pl8 er0 er1 er2 bk0 bk1 bk2 dr0 sh0 sh1 sh2 sh3 sh4 sh5 sh6 sh7 sh8 sp0 sp1 sp2 sp3 sp4 sp5 sp6 sp7 sp8 a0 a1 a2 a3 a4 a5 a6 a7 a8 a9 a10 a11 a12 a13 a14 a15 a16 a17 a18 a19 a20 a21 a22 a23 a24 a25 a26 a27 a28 a29 a30 a31 a32 a33 a34 a35 a36 a37 a38 → Sm p l e room_1 s m #[Value.ref b] below meth c G (fun q : Nat => s.heap.size ≤ q) 4 68 1925 (lw_Z below #[Value.ref b] s) 944 [(3, .int (nI k)), (2, .ref (ad 0)), (1, .ref (AD 10 0)), (0, .ref b)] [] (wC G AD (AD 8 0) (AD 9 0) rd0 rd1 rd2 rd3 rd4 dy0 dy1 dy2 dy3 dy4 dy5 pa0 pa1 pa2 im0 im1 im2 pl0 pl1 pl2 pl3 pl4 pl5 pl6 pl7 pl8 er0 er1 er2 bk0 bk1 bk2 dr0 sh0 sh1 sh2 sh3 sh4 sh5 sh6 sh7 sh8 sp0 sp1 sp2 sp3 sp4 sp5 sp6 sp7 sp8 ++ wX10 G ad a0 a1 a2 a3 a4 a5 a6 a7 a8 a9 a10 a11 a12 a13 a14 a15 a16 a17 a18 a19 a20 a21 a22 a23 a24 a25 a26 a27 a28 a29 a30 a31 a32 a33 a34 a35 a36 a37 a38)) : Sm p l e room_1 s m #[Value.ref b] below meth c G (fun q : Nat => s.heap.size ≤ q) 4 68 1925 (lw_Z below #[Value.ref b] s) 898 [(3, .int (nI k)), (2, .ref (ad 0)), (1, .ref (AD 10 0)), (0, .ref b)] [] (wC G AD (AD 8 0) (AD 9 0) rd0 rd1 rd2 rd3 rd4 dy0 dy1 dy2 dy3 dy4 dy5 pa0 pa1 pa2 im0 im1 im2 pl0 pl1 pl2 pl3 pl4 pl5 pl6 pl7 pl8 er0 er1 er2 bk0 bk1 bk2 dr0 sh0 sh1 sh2 sh3 sh4 sh5 sh6 sh7 sh8 sp0 sp1 sp2 sp3 sp4 sp5 sp6 sp7 sp8 ++ wX10 G ad a0 a1 a2 a3 a4 a5 a6 a7 a8 a9 a10 a11 a12 a13 a14 a15 a16 a17 a18 a19 a20 a21 a22 a23 a24 a25 a26 a27 a28 a29 a30 a31 a32 a33 a34 a35 a36 a37 a38) := by
  obtain ⟨hT, hF, hB, hD, hI, hP, hM, hE, hK, hS, s0⟩ := hRel
  have k_t0 : 0 ≤ a0 := hB.2.1.1
  have k_t12 : a0 ≤ 12 := hB.2.1.2
  have k_h0 : 0 ≤ a2 := hB.2.2.1.1
  have k_h4 : a2 ≤ 4 := hB.2.2.1.2
  have k_ca : 0 ≤ a4 := hB.2.2.2.1.1
  have k_cb : a4 ≤ 5 := hB.2.2.2.1.2
  have k_th : 0 < a2 → 0 < a0 := hB.2.2.2.2.1
  have k_tc : 0 < a4 → 0 < a0 := hB.2.2.2.2.2.1
  have c_t12 : sh6 ≤ 12 := by rw [hB.1.1]; exact k_t12
  have c_h0 : 0 ≤ sh7 := by rw [hB.1.2.1]; exact k_h0
  have c_h4 : sh7 ≤ 4 := by rw [hB.1.2.1]; exact k_h4
  have c_ca : 0 ≤ sh8 := by rw [hB.1.2.2]; exact k_ca
  have c_cb : sh8 ≤ 5 := by rw [hB.1.2.2]; exact k_cb
  have hc5 := clampLe (n := 5) (b := 5) rfl k_ca k_cb
  have k_n0 : 0 ≤ a9 22 := hI.1.1
  have k_n9 : a9 22 ≤ 9060 := Int32.le_iff_toInt_le.mpr hI.1.2
  have k_NI : NI 9060 a9 := DI_NI hc5 hI
  have k_u0 : 0 ≤ a26 := hP.2.1
  have k_u20 : a26 ≤ 20 := hP.2.2.1
  have c_u0 : 0 ≤ pa1 := hP.2.2.2.1
  have c_u20 : pa1 < 20 := hP.2.2.2.2.1
  have k_x0 : 0 ≤ a12 := hT.2.1
  have k_x240 : a12 ≤ 240 := hT.2.2.1
  have c_x0 : 0 ≤ rd2 := by rw [hT.1]; exact k_x0
  have c_x240 : rd2 ≤ 240 := by rw [hT.1]; exact k_x240
  have k_e0 : 0 ≤ a31 := hE.2.1
  have k_e6 : a31 ≤ 6 := hE.2.2.1
  have c_e0 : 0 ≤ er2 := by rw [hE.1]; exact k_e0
  have c_e6 : er2 ≤ 6 := by rw [hE.1]; exact k_e6
  have k_b0 : 0 ≤ a34 := hK.2.1
  have k_b15 : a34 ≤ 15 := hK.2.2.1
  have c_b0 : 0 ≤ bk2 := by rw [hK.1]; exact k_b0
  have c_b15 : bk2 ≤ 15 := by rw [hK.1]; exact k_b15
  have k_bk : ∀ j : Nat, j < a34.toNatClampNeg → vp_in (a35 j) 5 := fun j hj => by
    have z := hK.2.2.2 j hj
    rw [cl_nI _ z.2.2.1]
    exact vp_in_nI (by omega) (by decide)
  have c_bk : ∀ j : Nat, j < bk2.toNatClampNeg → vp_in (bk0 j) 5 := fun j hj => by
    rw [hK.1] at hj
    rw [(hK.2.2.2 j hj).1]
    exact k_bk j hj
  have c_hL : ∀ j : Nat, j < 5 → ¬ rX0_hasCase sh8 (nI j) = 0 → 1 ≤ sh3 j ∧ sh3 j ≤ 4 := fun j h5 hj => hL_of hB h5 hj
  have EE : rX9_keep (xs (nI k + (1 : Int32)).toNatClampNeg) = rX10_keep (xs (nI k + (1 : Int32)).toNatClampNeg) ∧ Rel rd0 rd1 rd2 rd3 rd4 dy0 dy1 dy2 dy3 dy4 dy5 pa0 pa1 (sX9_keep_o2_2 pa2 (xs (nI k + (1 : Int32)).toNatClampNeg)) (sX9_keep_o3_0 dy0 dy1 dy2 dy3 dy4 dy5 im0 (xs (nI k + (1 : Int32)).toNatClampNeg)) (sX9_keep_o3_1 im1 dr0 (xs (nI k + (1 : Int32)).toNatClampNeg)) (sX9_keep_o3_2 im2 (xs (nI k + (1 : Int32)).toNatClampNeg)) pl0 pl1 pl2 pl3 pl4 pl5 pl6 pl7 pl8 er0 er1 er2 bk0 bk1 bk2 dr0 sh0 sh1 sh2 sh3 sh4 sh5 sh6 sh7 sh8 sp0 sp1 sp2 sp3 sp4 sp5 sp6 sp7 sp8 a0 a1 a2 a3 a4 a5 a6 a7 a8 a9 a10 a11 a12 a13 a14 a15 a16 a17 a18 a19 a20 a21 a22 a23 a24 a25 (sX10_keep_26 a26 (xs (nI k + (1 : Int32)).toNatClampNeg)) a27 a28 a29 a30 a31 a32 a33 a34 a35 a36 (sX10_keep_37 a9 a10 a37 (xs (nI k + (1 : Int32)).toNatClampNeg)) (sX10_keep_38 a38 (xs (nI k + (1 : Int32)).toNatClampNeg)) := by
    have z := e_keep (p0 := (xs (nI k + (1 : Int32)).toNatClampNeg)) hc5 hD hI hP hM hS s0
    exact ⟨z.1, hT, hF, hB, hD, hI, z.2.1, z.2.2, hE, hK, hS, s0⟩
  refine s_aload_n X (pc := 898) (x := (AD 10 0)) 2 dL_law_898 rfl ?_
  refine s_aload_n X (pc := 899) (x := b) 3 dL_law_899 rfl ?_
  refine s_iload_n X (pc := 900) (x := nI k) 0 dL_law_900 rfl ?_
  refine s_iconst X (pc := 901) (v := 1) dL_law_901 (by decide) ?_
  refine s_iadd X (pc := 902) dL_law_902 ?_
  refine s_sld X (pc := 903) hX hbl (ix5 (j := 1) rfl (by decide) hk hL) dL_law_903 ?_
  refine s_callVi0 X (pc := 904) (cells := 68) (slots := 1925) (r := rX9_keep (xs (nI k + (1 : Int32)).toNatClampNeg)) (w := wC G AD (AD 8 0) (AD 9 0) rd0 rd1 rd2 rd3 rd4 dy0 dy1 dy2 dy3 dy4 dy5 pa0 pa1 pa2 im0 im1 im2 pl0 pl1 pl2 pl3 pl4 pl5 pl6 pl7 pl8 er0 er1 er2 bk0 bk1 bk2 dr0 sh0 sh1 sh2 sh3 sh4 sh5 sh6 sh7 sh8 sp0 sp1 sp2 sp3 sp4 sp5 sp6 sp7 sp8 ++ wX10 G ad a0 a1 a2 a3 a4 a5 a6 a7 a8 a9 a10 a11 a12 a13 a14 a15 a16 a17 a18 a19 a20 a21 a22 a23 a24 a25 a26 a27 a28 a29 a30 a31 a32 a33 a34 a35 a36 a37 a38) (n := 1) (st := []) (As := [.int (xs (nI k + (1 : Int32)).toNatClampNeg)]) (w2 := wC G AD (AD 8 0) (AD 9 0) rd0 rd1 rd2 rd3 rd4 dy0 dy1 dy2 dy3 dy4 dy5 pa0 pa1 (sX9_keep_o2_2 pa2 (xs (nI k + (1 : Int32)).toNatClampNeg)) (sX9_keep_o3_0 dy0 dy1 dy2 dy3 dy4 dy5 im0 (xs (nI k + (1 : Int32)).toNatClampNeg)) (sX9_keep_o3_1 im1 dr0 (xs (nI k + (1 : Int32)).toNatClampNeg)) (sX9_keep_o3_2 im2 (xs (nI k + (1 : Int32)).toNatClampNeg)) pl0 pl1 pl2 pl3 pl4 pl5 pl6 pl7 pl8 er0 er1 er2 bk0 bk1 bk2 dr0 sh0 sh1 sh2 sh3 sh4 sh5 sh6 sh7 sh8 sp0 sp1 sp2 sp3 sp4 sp5 sp6 sp7 sp8 ++ wX10 G ad a0 a1 a2 a3 a4 a5 a6 a7 a8 a9 a10 a11 a12 a13 a14 a15 a16 a17 a18 a19 a20 a21 a22 a23 a24 a25 a26 a27 a28 a29 a30 a31 a32 a33 a34 a35 a36 a37 a38) 2 (ci_fr (List.Perm.refl _) (List.Perm.refl _) [AD 10 0, AD 0 0, AD 0 1, AD 1 0, AD 1 1, AD 1 2, AD 1 3, AD 1 4, AD 1 5, AD 2 0, AD 2 1, AD 3 0, AD 3 1, AD 3 2, AD 3 3, AD 4 0, AD 4 1, AD 4 2, AD 4 3, AD 4 4, AD 4 5, AD 4 6, AD 5 0, AD 5 1, AD 5 2, AD 6 0, AD 6 1, AD 6 2, AD 7 0, AD 8 0, AD 8 1, AD 8 2, AD 8 3, AD 8 4, AD 8 5, AD 8 6, AD 9 0, AD 9 1, AD 9 2, AD 9 3, AD 9 4, AD 9 5, AD 9 6] rfl rfl (c_X9_keep l G AD rd0 rd1 rd2 rd3 rd4 dy0 dy1 dy2 dy3 dy4 dy5 pa0 pa1 pa2 im0 im1 im2 pl0 pl1 pl2 pl3 pl4 pl5 pl6 pl7 pl8 er0 er1 er2 bk0 bk1 bk2 dr0 sh0 sh1 sh2 sh3 sh4 sh5 sh6 sh7 sh8 sp0 sp1 sp2 sp3 sp4 sp5 sp6 sp7 sp8 (xs (nI k + (1 : Int32)).toNatClampNeg))) gL_law_X9_keep rfl (by decide +kernel) ⟨(Nat.le_of_ble_eq_true rfl), (Nat.le_of_ble_eq_true rfl)⟩ 0 rfl rfl rfl rfl (Nat.le_of_ble_eq_true rfl) (Nat.le_of_ble_eq_true rfl) (Nat.le_of_ble_eq_true rfl) dL_law_904 ?_
  refine s_aload_n X (pc := 907) (x := (ad 0)) 1 dL_law_907 rfl ?_
  refine s_aload_n X (pc := 908) (x := b) 3 dL_law_908 rfl ?_
  refine s_iload_n X (pc := 909) (x := nI k) 0 dL_law_909 rfl ?_
  refine s_iconst X (pc := 910) (v := 1) dL_law_910 (by decide) ?_
  refine s_iadd X (pc := 911) dL_law_911 ?_
  refine s_sld X (pc := 912) hX hbl (ix5 (j := 1) rfl (by decide) hk hL) dL_law_912 ?_
  refine s_callVi0 X (pc := 913) (cells := 68) (slots := 1925) (r := rX10_keep (xs (nI k + (1 : Int32)).toNatClampNeg)) (w := wC G AD (AD 8 0) (AD 9 0) rd0 rd1 rd2 rd3 rd4 dy0 dy1 dy2 dy3 dy4 dy5 pa0 pa1 (sX9_keep_o2_2 pa2 (xs (nI k + (1 : Int32)).toNatClampNeg)) (sX9_keep_o3_0 dy0 dy1 dy2 dy3 dy4 dy5 im0 (xs (nI k + (1 : Int32)).toNatClampNeg)) (sX9_keep_o3_1 im1 dr0 (xs (nI k + (1 : Int32)).toNatClampNeg)) (sX9_keep_o3_2 im2 (xs (nI k + (1 : Int32)).toNatClampNeg)) pl0 pl1 pl2 pl3 pl4 pl5 pl6 pl7 pl8 er0 er1 er2 bk0 bk1 bk2 dr0 sh0 sh1 sh2 sh3 sh4 sh5 sh6 sh7 sh8 sp0 sp1 sp2 sp3 sp4 sp5 sp6 sp7 sp8 ++ wX10 G ad a0 a1 a2 a3 a4 a5 a6 a7 a8 a9 a10 a11 a12 a13 a14 a15 a16 a17 a18 a19 a20 a21 a22 a23 a24 a25 a26 a27 a28 a29 a30 a31 a32 a33 a34 a35 a36 a37 a38) (n := 1) (st := [.int (rX9_keep (xs (nI k + (1 : Int32)).toNatClampNeg))]) (As := [.int (xs (nI k + (1 : Int32)).toNatClampNeg)]) (w2 := wC G AD (AD 8 0) (AD 9 0) rd0 rd1 rd2 rd3 rd4 dy0 dy1 dy2 dy3 dy4 dy5 pa0 pa1 (sX9_keep_o2_2 pa2 (xs (nI k + (1 : Int32)).toNatClampNeg)) (sX9_keep_o3_0 dy0 dy1 dy2 dy3 dy4 dy5 im0 (xs (nI k + (1 : Int32)).toNatClampNeg)) (sX9_keep_o3_1 im1 dr0 (xs (nI k + (1 : Int32)).toNatClampNeg)) (sX9_keep_o3_2 im2 (xs (nI k + (1 : Int32)).toNatClampNeg)) pl0 pl1 pl2 pl3 pl4 pl5 pl6 pl7 pl8 er0 er1 er2 bk0 bk1 bk2 dr0 sh0 sh1 sh2 sh3 sh4 sh5 sh6 sh7 sh8 sp0 sp1 sp2 sp3 sp4 sp5 sp6 sp7 sp8 ++ wX10 G ad a0 a1 a2 a3 a4 a5 a6 a7 a8 a9 a10 a11 a12 a13 a14 a15 a16 a17 a18 a19 a20 a21 a22 a23 a24 a25 (sX10_keep_26 a26 (xs (nI k + (1 : Int32)).toNatClampNeg)) a27 a28 a29 a30 a31 a32 a33 a34 a35 a36 (sX10_keep_37 a9 a10 a37 (xs (nI k + (1 : Int32)).toNatClampNeg)) (sX10_keep_38 a38 (xs (nI k + (1 : Int32)).toNatClampNeg))) 1 (ci_fr List.perm_append_comm List.perm_append_comm [ad 0, ad 2, ad 4, ad 6, ad 7, ad 8, ad 9, ad 10, ad 12, ad 19, ad 21, ad 23, ad 24, ad 25, ad 26, ad 28, ad 29, ad 30, ad 31, ad 33, ad 34, ad 36, ad 37, ad 38, ad 39] rfl rfl (c_X10_keep l G ad a0 a1 a2 a3 a4 a5 a6 a7 a8 a9 a10 a11 a12 a13 a14 a15 a16 a17 a18 a19 a20 a21 a22 a23 a24 a25 a26 a27 a28 a29 a30 a31 a32 a33 a34 a35 a36 a37 a38 (xs (nI k + (1 : Int32)).toNatClampNeg))) gL_law_X10_keep rfl (by decide +kernel) ⟨(Nat.le_of_ble_eq_true rfl), (Nat.le_of_ble_eq_true rfl)⟩ 43 rfl rfl rfl rfl (Nat.le_of_ble_eq_true rfl) (Nat.le_of_ble_eq_true rfl) (Nat.le_of_ble_eq_true rfl) dL_law_913 ?_
  refine s_icmp_eq X (pc := 916) (tgt := 944) dL_law_916 (by decide) (fun cq => ?_) (fun cq => absurd EE.1 cq)
  exact K (AD := AD) EE.2

set_option maxRecDepth 100000 in
set_option maxHeartbeats 4000000 in
theorem law_goBack {p : Program} {l : Launch} {e : Env} {s : State} {m : MethodId} {below : List Frame} {meth : Method} {c : Code} {G : GT} {b L : Nat} {xs : Nat → Int32} (X : Cx p room_1 s m #[Value.ref b] meth c G (fun q : Nat => s.heap.size ≤ q) 4 cL_law wsL_law RL (some .boolean)) (hX : va_X b L xs s s.heap) (hbl : b < s.heap.size) {k : Nat} (hk : k + 5 ≤ L) (hL : L ≤ 320) {AD : Nat → Nat → Nat} {ad : Nat → Nat} {rd0 : Nat → Int32} {rd1 rd2 rd3 rd4 : Int32} {dy0 dy1 dy2 dy3 dy4 : Nat → Int32} {dy5 : Int32} {pa0 : Nat → Int32} {pa1 pa2 : Int32} {im0 im1 im2 pl0 pl1 pl2 pl3 pl4 pl5 : Nat → Int32} {pl6 pl7 pl8 : Int32} {er0 er1 : Nat → Int32} {er2 : Int32} {bk0 bk1 : Nat → Int32} {bk2 dr0 : Int32} {sh0 sh1 sh2 sh3 sh4 sh5 : Nat → Int32} {sh6 sh7 sh8 : Int32} {sp0 sp1 sp2 sp3 sp4 sp5 : Nat → Int32} {sp6 sp7 sp8 a0 : Int32} {a1 : Nat → Int32} {a2 : Int32} {a3 : Nat → Int32} {a4 : Int32} {a5 a6 a7 a8 a9 : Nat → Int32} {a10 : Int32} {a11 : Nat → Int32} {a12 a13 a14 a15 a16 a17 : Int32} {a18 : Nat → Int32} {a19 : Int32} {a20 : Nat → Int32} {a21 : Int32} {a22 a23 a24 a25 : Nat → Int32} {a26 : Int32} {a27 a28 a29 a30 : Nat → Int32} {a31 : Int32} {a32 a33 : Nat → Int32} {a34 : Int32} {a35 a36 a37 a38 : Nat → Int32} (hRel : Rel rd0 rd1 rd2 rd3 rd4 dy0 dy1 dy2 dy3 dy4 dy5 pa0 pa1 pa2 im0 im1 im2 pl0 pl1 pl2 pl3 pl4 pl5 pl6 pl7 pl8 er0 er1 er2 bk0 bk1 bk2 dr0 sh0 sh1 sh2 sh3 sh4 sh5 sh6 sh7 sh8 sp0 sp1 sp2 sp3 sp4 sp5 sp6 sp7 sp8 a0 a1 a2 a3 a4 a5 a6 a7 a8 a9 a10 a11 a12 a13 a14 a15 a16 a17 a18 a19 a20 a21 a22 a23 a24 a25 a26 a27 a28 a29 a30 a31 a32 a33 a34 a35 a36 a37 a38) (K : ∀ {AD : Nat → Nat → Nat} {rd0 : Nat → Int32} {rd1 rd2 rd3 rd4 : Int32} {dy0 dy1 dy2 dy3 dy4 : Nat → Int32} {dy5 : Int32} {pa0 : Nat → Int32} {pa1 pa2 : Int32} {im0 im1 im2 pl0 pl1 pl2 pl3 pl4 pl5 : Nat → Int32} {pl6 pl7 pl8 : Int32} {er0 er1 : Nat → Int32} {er2 : Int32} {bk0 bk1 : Nat → Int32} {bk2 dr0 : Int32} {sh0 sh1 sh2 sh3 sh4 sh5 : Nat → Int32} {sh6 sh7 sh8 : Int32} {sp0 sp1 sp2 sp3 sp4 sp5 : Nat → Int32} {sp6 sp7 sp8 a0 : Int32} {a1 : Nat → Int32} {a2 : Int32} {a3 : Nat → Int32} {a4 : Int32} {a5 a6 a7 a8 a9 : Nat → Int32} {a10 : Int32} {a11 : Nat → Int32} {a12 a13 a14 a15 a16 a17 : Int32} {a18 : Nat → Int32} {a19 : Int32} {a20 : Nat → Int32} {a21 : Int32} {a22 a23 a24 a25 : Nat → Int32} {a26 : Int32} {a27 a28 a29 a30 : Nat → Int32} {a31 : Int32} {a32 a33 : Nat → Int32} {a34 : Int32} {a35 a36 a37 a38 : Nat → Int32}, Rel rd0 rd1 rd2 rd3 rd4 dy0 dy1 dy2 dy3 dy4 dy5 pa0 pa1 pa2 im0 im1 im2 pl0 pl1 pl2 pl3 pl4 pl5 pl6 pl7 pl8 er0 er1 er2 bk0 bk1 bk2 dr0 sh0 sh1 sh2 sh3 sh4 sh5 sh6 sh7 sh8 sp0 sp1 sp2 sp3 sp4 sp5 sp6 sp7 sp8 a0 a1 a2 a3 a4 a5 a6 a7 a8 a9 a10 a11 a12 a13 a14 a15 a16 a17 a18 a19 a20 a21 a22 a23 a24 a25 a26 a27 a28 a29 a30 a31 a32 a33 a34 a35 a36 a37 a38 → Sm p l e room_1 s m #[Value.ref b] below meth c G (fun q : Nat => s.heap.size ≤ q) 4 68 1925 (lw_Z below #[Value.ref b] s) 944 [(3, .int (nI k)), (2, .ref (ad 0)), (1, .ref (AD 10 0)), (0, .ref b)] [] (wC G AD (AD 8 0) (AD 9 0) rd0 rd1 rd2 rd3 rd4 dy0 dy1 dy2 dy3 dy4 dy5 pa0 pa1 pa2 im0 im1 im2 pl0 pl1 pl2 pl3 pl4 pl5 pl6 pl7 pl8 er0 er1 er2 bk0 bk1 bk2 dr0 sh0 sh1 sh2 sh3 sh4 sh5 sh6 sh7 sh8 sp0 sp1 sp2 sp3 sp4 sp5 sp6 sp7 sp8 ++ wX10 G ad a0 a1 a2 a3 a4 a5 a6 a7 a8 a9 a10 a11 a12 a13 a14 a15 a16 a17 a18 a19 a20 a21 a22 a23 a24 a25 a26 a27 a28 a29 a30 a31 a32 a33 a34 a35 a36 a37 a38)) : Sm p l e room_1 s m #[Value.ref b] below meth c G (fun q : Nat => s.heap.size ≤ q) 4 68 1925 (lw_Z below #[Value.ref b] s) 921 [(3, .int (nI k)), (2, .ref (ad 0)), (1, .ref (AD 10 0)), (0, .ref b)] [] (wC G AD (AD 8 0) (AD 9 0) rd0 rd1 rd2 rd3 rd4 dy0 dy1 dy2 dy3 dy4 dy5 pa0 pa1 pa2 im0 im1 im2 pl0 pl1 pl2 pl3 pl4 pl5 pl6 pl7 pl8 er0 er1 er2 bk0 bk1 bk2 dr0 sh0 sh1 sh2 sh3 sh4 sh5 sh6 sh7 sh8 sp0 sp1 sp2 sp3 sp4 sp5 sp6 sp7 sp8 ++ wX10 G ad a0 a1 a2 a3 a4 a5 a6 a7 a8 a9 a10 a11 a12 a13 a14 a15 a16 a17 a18 a19 a20 a21 a22 a23 a24 a25 a26 a27 a28 a29 a30 a31 a32 a33 a34 a35 a36 a37 a38) := by
  obtain ⟨hT, hF, hB, hD, hI, hP, hM, hE, hK, hS, s0⟩ := hRel
  have k_t0 : 0 ≤ a0 := hB.2.1.1
  have k_t12 : a0 ≤ 12 := hB.2.1.2
  have k_h0 : 0 ≤ a2 := hB.2.2.1.1
  have k_h4 : a2 ≤ 4 := hB.2.2.1.2
  have k_ca : 0 ≤ a4 := hB.2.2.2.1.1
  have k_cb : a4 ≤ 5 := hB.2.2.2.1.2
  have k_th : 0 < a2 → 0 < a0 := hB.2.2.2.2.1
  have k_tc : 0 < a4 → 0 < a0 := hB.2.2.2.2.2.1
  have c_t12 : sh6 ≤ 12 := by rw [hB.1.1]; exact k_t12
  have c_h0 : 0 ≤ sh7 := by rw [hB.1.2.1]; exact k_h0
  have c_h4 : sh7 ≤ 4 := by rw [hB.1.2.1]; exact k_h4
  have c_ca : 0 ≤ sh8 := by rw [hB.1.2.2]; exact k_ca
  have c_cb : sh8 ≤ 5 := by rw [hB.1.2.2]; exact k_cb
  have hc5 := clampLe (n := 5) (b := 5) rfl k_ca k_cb
  have k_n0 : 0 ≤ a9 22 := hI.1.1
  have k_n9 : a9 22 ≤ 9060 := Int32.le_iff_toInt_le.mpr hI.1.2
  have k_NI : NI 9060 a9 := DI_NI hc5 hI
  have k_u0 : 0 ≤ a26 := hP.2.1
  have k_u20 : a26 ≤ 20 := hP.2.2.1
  have c_u0 : 0 ≤ pa1 := hP.2.2.2.1
  have c_u20 : pa1 < 20 := hP.2.2.2.2.1
  have k_x0 : 0 ≤ a12 := hT.2.1
  have k_x240 : a12 ≤ 240 := hT.2.2.1
  have c_x0 : 0 ≤ rd2 := by rw [hT.1]; exact k_x0
  have c_x240 : rd2 ≤ 240 := by rw [hT.1]; exact k_x240
  have k_e0 : 0 ≤ a31 := hE.2.1
  have k_e6 : a31 ≤ 6 := hE.2.2.1
  have c_e0 : 0 ≤ er2 := by rw [hE.1]; exact k_e0
  have c_e6 : er2 ≤ 6 := by rw [hE.1]; exact k_e6
  have k_b0 : 0 ≤ a34 := hK.2.1
  have k_b15 : a34 ≤ 15 := hK.2.2.1
  have c_b0 : 0 ≤ bk2 := by rw [hK.1]; exact k_b0
  have c_b15 : bk2 ≤ 15 := by rw [hK.1]; exact k_b15
  have k_bk : ∀ j : Nat, j < a34.toNatClampNeg → vp_in (a35 j) 5 := fun j hj => by
    have z := hK.2.2.2 j hj
    rw [cl_nI _ z.2.2.1]
    exact vp_in_nI (by omega) (by decide)
  have c_bk : ∀ j : Nat, j < bk2.toNatClampNeg → vp_in (bk0 j) 5 := fun j hj => by
    rw [hK.1] at hj
    rw [(hK.2.2.2 j hj).1]
    exact k_bk j hj
  have c_hL : ∀ j : Nat, j < 5 → ¬ rX0_hasCase sh8 (nI j) = 0 → 1 ≤ sh3 j ∧ sh3 j ≤ 4 := fun j h5 hj => hL_of hB h5 hj
  have EE : rX9_goBack im2 (xs (nI k + (1 : Int32)).toNatClampNeg) = rX10_goBack a38 (xs (nI k + (1 : Int32)).toNatClampNeg) ∧ Rel rd0 rd1 rd2 rd3 rd4 (sX9_goBack_o1_0 dy0 im0 im2 (xs (nI k + (1 : Int32)).toNatClampNeg)) (sX9_goBack_o1_1 dy1 im0 im2 (xs (nI k + (1 : Int32)).toNatClampNeg)) (sX9_goBack_o1_2 dy2 im0 im2 (xs (nI k + (1 : Int32)).toNatClampNeg)) (sX9_goBack_o1_3 dy3 im0 im2 (xs (nI k + (1 : Int32)).toNatClampNeg)) (sX9_goBack_o1_4 dy4 im0 im2 (xs (nI k + (1 : Int32)).toNatClampNeg)) (sX9_goBack_o1_5 dy5 im0 im2 (xs (nI k + (1 : Int32)).toNatClampNeg)) pa0 pa1 (sX9_goBack_o2_2 pa2 im2 (xs (nI k + (1 : Int32)).toNatClampNeg)) im0 im1 im2 pl0 pl1 pl2 pl3 pl4 pl5 pl6 pl7 pl8 er0 er1 er2 bk0 bk1 bk2 (sX9_goBack_o7_0 im1 im2 dr0 (xs (nI k + (1 : Int32)).toNatClampNeg)) sh0 sh1 sh2 sh3 sh4 sh5 sh6 sh7 sh8 sp0 sp1 sp2 sp3 sp4 sp5 sp6 sp7 sp8 a0 a1 a2 a3 a4 a5 a6 a7 a8 (sX10_goBack_9 a9 a37 a38 (xs (nI k + (1 : Int32)).toNatClampNeg)) (sX10_goBack_10 a10 a37 a38 (xs (nI k + (1 : Int32)).toNatClampNeg)) a11 a12 a13 a14 a15 a16 a17 a18 a19 a20 a21 a22 a23 a24 a25 (sX10_goBack_26 a26 a38 (xs (nI k + (1 : Int32)).toNatClampNeg)) a27 a28 a29 a30 a31 a32 a33 a34 a35 a36 a37 a38 := by
    have z := e_goBack (p0 := (xs (nI k + (1 : Int32)).toNatClampNeg)) hc5 hD hI hP hM hS s0
    exact ⟨z.1, hT, hF, hB, z.2.1, z.2.2.1, z.2.2.2.1, hM, hE, hK, z.2.2.2.2.1, z.2.2.2.2.2⟩
  refine s_aload_n X (pc := 921) (x := (AD 10 0)) 2 dL_law_921 rfl ?_
  refine s_aload_n X (pc := 922) (x := b) 3 dL_law_922 rfl ?_
  refine s_iload_n X (pc := 923) (x := nI k) 0 dL_law_923 rfl ?_
  refine s_iconst X (pc := 924) (v := 1) dL_law_924 (by decide) ?_
  refine s_iadd X (pc := 925) dL_law_925 ?_
  refine s_sld X (pc := 926) hX hbl (ix5 (j := 1) rfl (by decide) hk hL) dL_law_926 ?_
  refine s_callVi0 X (pc := 927) (cells := 68) (slots := 1925) (r := rX9_goBack im2 (xs (nI k + (1 : Int32)).toNatClampNeg)) (w := wC G AD (AD 8 0) (AD 9 0) rd0 rd1 rd2 rd3 rd4 dy0 dy1 dy2 dy3 dy4 dy5 pa0 pa1 pa2 im0 im1 im2 pl0 pl1 pl2 pl3 pl4 pl5 pl6 pl7 pl8 er0 er1 er2 bk0 bk1 bk2 dr0 sh0 sh1 sh2 sh3 sh4 sh5 sh6 sh7 sh8 sp0 sp1 sp2 sp3 sp4 sp5 sp6 sp7 sp8 ++ wX10 G ad a0 a1 a2 a3 a4 a5 a6 a7 a8 a9 a10 a11 a12 a13 a14 a15 a16 a17 a18 a19 a20 a21 a22 a23 a24 a25 a26 a27 a28 a29 a30 a31 a32 a33 a34 a35 a36 a37 a38) (n := 1) (st := []) (As := [.int (xs (nI k + (1 : Int32)).toNatClampNeg)]) (w2 := wC G AD (AD 8 0) (AD 9 0) rd0 rd1 rd2 rd3 rd4 (sX9_goBack_o1_0 dy0 im0 im2 (xs (nI k + (1 : Int32)).toNatClampNeg)) (sX9_goBack_o1_1 dy1 im0 im2 (xs (nI k + (1 : Int32)).toNatClampNeg)) (sX9_goBack_o1_2 dy2 im0 im2 (xs (nI k + (1 : Int32)).toNatClampNeg)) (sX9_goBack_o1_3 dy3 im0 im2 (xs (nI k + (1 : Int32)).toNatClampNeg)) (sX9_goBack_o1_4 dy4 im0 im2 (xs (nI k + (1 : Int32)).toNatClampNeg)) (sX9_goBack_o1_5 dy5 im0 im2 (xs (nI k + (1 : Int32)).toNatClampNeg)) pa0 pa1 (sX9_goBack_o2_2 pa2 im2 (xs (nI k + (1 : Int32)).toNatClampNeg)) im0 im1 im2 pl0 pl1 pl2 pl3 pl4 pl5 pl6 pl7 pl8 er0 er1 er2 bk0 bk1 bk2 (sX9_goBack_o7_0 im1 im2 dr0 (xs (nI k + (1 : Int32)).toNatClampNeg)) sh0 sh1 sh2 sh3 sh4 sh5 sh6 sh7 sh8 sp0 sp1 sp2 sp3 sp4 sp5 sp6 sp7 sp8 ++ wX10 G ad a0 a1 a2 a3 a4 a5 a6 a7 a8 a9 a10 a11 a12 a13 a14 a15 a16 a17 a18 a19 a20 a21 a22 a23 a24 a25 a26 a27 a28 a29 a30 a31 a32 a33 a34 a35 a36 a37 a38) 2 (ci_fr (List.Perm.refl _) (List.Perm.refl _) [AD 10 0, AD 0 0, AD 0 1, AD 1 0, AD 1 1, AD 1 2, AD 1 3, AD 1 4, AD 1 5, AD 2 0, AD 2 1, AD 3 0, AD 3 1, AD 3 2, AD 3 3, AD 4 0, AD 4 1, AD 4 2, AD 4 3, AD 4 4, AD 4 5, AD 4 6, AD 5 0, AD 5 1, AD 5 2, AD 6 0, AD 6 1, AD 6 2, AD 7 0, AD 8 0, AD 8 1, AD 8 2, AD 8 3, AD 8 4, AD 8 5, AD 8 6, AD 9 0, AD 9 1, AD 9 2, AD 9 3, AD 9 4, AD 9 5, AD 9 6] rfl rfl (c_X9_goBack l G AD rd0 rd1 rd2 rd3 rd4 dy0 dy1 dy2 dy3 dy4 dy5 pa0 pa1 pa2 im0 im1 im2 pl0 pl1 pl2 pl3 pl4 pl5 pl6 pl7 pl8 er0 er1 er2 bk0 bk1 bk2 dr0 sh0 sh1 sh2 sh3 sh4 sh5 sh6 sh7 sh8 sp0 sp1 sp2 sp3 sp4 sp5 sp6 sp7 sp8 (xs (nI k + (1 : Int32)).toNatClampNeg))) gL_law_X9_goBack rfl (by decide +kernel) ⟨(Nat.le_of_ble_eq_true rfl), (Nat.le_of_ble_eq_true rfl)⟩ 0 rfl rfl rfl rfl (Nat.le_of_ble_eq_true rfl) (Nat.le_of_ble_eq_true rfl) (Nat.le_of_ble_eq_true rfl) dL_law_927 ?_
  refine s_aload_n X (pc := 930) (x := (ad 0)) 1 dL_law_930 rfl ?_
  refine s_aload_n X (pc := 931) (x := b) 3 dL_law_931 rfl ?_
  refine s_iload_n X (pc := 932) (x := nI k) 0 dL_law_932 rfl ?_
  refine s_iconst X (pc := 933) (v := 1) dL_law_933 (by decide) ?_
  refine s_iadd X (pc := 934) dL_law_934 ?_
  refine s_sld X (pc := 935) hX hbl (ix5 (j := 1) rfl (by decide) hk hL) dL_law_935 ?_
  refine s_callVi0 X (pc := 936) (cells := 68) (slots := 1925) (r := rX10_goBack a38 (xs (nI k + (1 : Int32)).toNatClampNeg)) (w := wC G AD (AD 8 0) (AD 9 0) rd0 rd1 rd2 rd3 rd4 (sX9_goBack_o1_0 dy0 im0 im2 (xs (nI k + (1 : Int32)).toNatClampNeg)) (sX9_goBack_o1_1 dy1 im0 im2 (xs (nI k + (1 : Int32)).toNatClampNeg)) (sX9_goBack_o1_2 dy2 im0 im2 (xs (nI k + (1 : Int32)).toNatClampNeg)) (sX9_goBack_o1_3 dy3 im0 im2 (xs (nI k + (1 : Int32)).toNatClampNeg)) (sX9_goBack_o1_4 dy4 im0 im2 (xs (nI k + (1 : Int32)).toNatClampNeg)) (sX9_goBack_o1_5 dy5 im0 im2 (xs (nI k + (1 : Int32)).toNatClampNeg)) pa0 pa1 (sX9_goBack_o2_2 pa2 im2 (xs (nI k + (1 : Int32)).toNatClampNeg)) im0 im1 im2 pl0 pl1 pl2 pl3 pl4 pl5 pl6 pl7 pl8 er0 er1 er2 bk0 bk1 bk2 (sX9_goBack_o7_0 im1 im2 dr0 (xs (nI k + (1 : Int32)).toNatClampNeg)) sh0 sh1 sh2 sh3 sh4 sh5 sh6 sh7 sh8 sp0 sp1 sp2 sp3 sp4 sp5 sp6 sp7 sp8 ++ wX10 G ad a0 a1 a2 a3 a4 a5 a6 a7 a8 a9 a10 a11 a12 a13 a14 a15 a16 a17 a18 a19 a20 a21 a22 a23 a24 a25 a26 a27 a28 a29 a30 a31 a32 a33 a34 a35 a36 a37 a38) (n := 1) (st := [.int (rX9_goBack im2 (xs (nI k + (1 : Int32)).toNatClampNeg))]) (As := [.int (xs (nI k + (1 : Int32)).toNatClampNeg)]) (w2 := wC G AD (AD 8 0) (AD 9 0) rd0 rd1 rd2 rd3 rd4 (sX9_goBack_o1_0 dy0 im0 im2 (xs (nI k + (1 : Int32)).toNatClampNeg)) (sX9_goBack_o1_1 dy1 im0 im2 (xs (nI k + (1 : Int32)).toNatClampNeg)) (sX9_goBack_o1_2 dy2 im0 im2 (xs (nI k + (1 : Int32)).toNatClampNeg)) (sX9_goBack_o1_3 dy3 im0 im2 (xs (nI k + (1 : Int32)).toNatClampNeg)) (sX9_goBack_o1_4 dy4 im0 im2 (xs (nI k + (1 : Int32)).toNatClampNeg)) (sX9_goBack_o1_5 dy5 im0 im2 (xs (nI k + (1 : Int32)).toNatClampNeg)) pa0 pa1 (sX9_goBack_o2_2 pa2 im2 (xs (nI k + (1 : Int32)).toNatClampNeg)) im0 im1 im2 pl0 pl1 pl2 pl3 pl4 pl5 pl6 pl7 pl8 er0 er1 er2 bk0 bk1 bk2 (sX9_goBack_o7_0 im1 im2 dr0 (xs (nI k + (1 : Int32)).toNatClampNeg)) sh0 sh1 sh2 sh3 sh4 sh5 sh6 sh7 sh8 sp0 sp1 sp2 sp3 sp4 sp5 sp6 sp7 sp8 ++ wX10 G ad a0 a1 a2 a3 a4 a5 a6 a7 a8 (sX10_goBack_9 a9 a37 a38 (xs (nI k + (1 : Int32)).toNatClampNeg)) (sX10_goBack_10 a10 a37 a38 (xs (nI k + (1 : Int32)).toNatClampNeg)) a11 a12 a13 a14 a15 a16 a17 a18 a19 a20 a21 a22 a23 a24 a25 (sX10_goBack_26 a26 a38 (xs (nI k + (1 : Int32)).toNatClampNeg)) a27 a28 a29 a30 a31 a32 a33 a34 a35 a36 a37 a38) 1 (ci_fr List.perm_append_comm List.perm_append_comm [ad 0, ad 2, ad 4, ad 6, ad 7, ad 8, ad 9, ad 10, ad 12, ad 19, ad 21, ad 23, ad 24, ad 25, ad 26, ad 28, ad 29, ad 30, ad 31, ad 33, ad 34, ad 36, ad 37, ad 38, ad 39] rfl rfl (c_X10_goBack l G ad a0 a1 a2 a3 a4 a5 a6 a7 a8 a9 a10 a11 a12 a13 a14 a15 a16 a17 a18 a19 a20 a21 a22 a23 a24 a25 a26 a27 a28 a29 a30 a31 a32 a33 a34 a35 a36 a37 a38 (xs (nI k + (1 : Int32)).toNatClampNeg))) gL_law_X10_goBack rfl (by decide +kernel) ⟨(Nat.le_of_ble_eq_true rfl), (Nat.le_of_ble_eq_true rfl)⟩ 43 rfl rfl rfl rfl (Nat.le_of_ble_eq_true rfl) (Nat.le_of_ble_eq_true rfl) (Nat.le_of_ble_eq_true rfl) dL_law_936 ?_
  refine s_icmp_eq X (pc := 939) (tgt := 944) dL_law_939 (by decide) (fun cq => ?_) (fun cq => absurd EE.1 cq)
  exact K (AD := AD) EE.2
