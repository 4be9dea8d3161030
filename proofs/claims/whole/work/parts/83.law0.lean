set_option maxRecDepth 100000 in
set_option maxHeartbeats 4000000 in
theorem law_feed {p : Program} {l : Launch} {e : Env} {s : State} {m : MethodId} {below : List Frame} {meth : Method} {c : Code} {G : GT} {b L : Nat} {xs : Nat → Int32} (X : Cx p room_1 s m #[Value.ref b] meth c G (fun q : Nat => s.heap.size ≤ q) 4 cL_law wsL_law RL (some .boolean)) (hX : va_X b L xs s s.heap) (hbl : b < s.heap.size) {k : Nat} (hk : k + 5 ≤ L) (hL : L ≤ 320) {AD : Nat → Nat → Nat} {ad : Nat → Nat} {rd0 : Nat → Int32} {rd1 rd2 rd3 rd4 : Int32} {dy0 dy1 dy2 dy3 dy4 : Nat → Int32} {dy5 : Int32} {pa0 : Nat → Int32} {pa1 pa2 : Int32} {im0 im1 im2 pl0 pl1 pl2 pl3 pl4 pl5 : Nat → Int32} {pl6 pl7 pl8 : Int32} {er0 er1 : Nat → Int32} {er2 : Int32} {bk0 bk1 : Nat → Int32} {bk2 dr0 : Int32} {sh0 sh1 sh2 sh3 sh4 sh5 : Nat → Int32} {sh6 sh7 sh8 : Int32} {sp0 sp1 sp2 sp3 sp4 sp5 : Nat → Int32} {sp6 sp7 sp8 a0 : Int32} {a1 : Nat → Int32} {a2 : Int32} {a3 : Nat → Int32} {a4 : Int32} {a5 a6 a7 a8 a9 : Nat → Int32} {a10 : Int32} {a11 : Nat → Int32} {a12 a13 a14 a15 a16 a17 : Int32} {a18 : Nat → Int32} {a19 : Int32} {a20 : Nat → Int32} {a21 : Int32} {a22 a23 a24 a25 : Nat → Int32} {a26 : Int32} {a27 a28 a29 a30 : Nat → Int32} {a31 : Int32} {a32 a33 : Nat → Int32} {a34 : Int32} {a35 a36 a37 a38 : Nat → Int32} (hRel : Rel rd0 rd1 rd2 rd3 rd4 dy0 dy1 dy2 dy3 dy4 dy5 pa0 pa1 pa2 im0 im1 im2 pl0 pl1 pl2 pl3 pl4 pl5 pl6 pl7 pl8 er0 er1 er2 bk0 bk1 bk2 dr0 sh0 sh1 sh2 sh3 sh4 sh5 sh6 sh7 sh8 sp0 sp1 sp2 sp3 sp4 sp5 sp6 sp7 sp8 a0 a1 a2 a3 a4 a5 a6 a7 a8 a9 a10 a11 a12 a13 a14 a15 a16 a17 a18 a19 a20 a21 a22 a23 a24 a25 a26 a27 a28 a29 a30 a31 a32 a33 a34 a35 a36 a37 a38) (K : ∀ {AD : Nat → Nat → Nat} {rd0 : Nat → Int32} {rd1 rd2 rd3 rd4 : Int32} {dy0 dy1 dy2 dy3 dy4 : Nat → Int32} {dy5 : Int32} {pa0 : Nat → Int32} {pa1 pa2 : Int32} {im0 im1 im2 pl0 pl1 pl2 pl3 pl4 pl5 : Nat → Int32} {pl6 pl7 pl8 : Int32} {er0 er1 : Nat → Int32} {er2 : Int32} {bk0 bk1 : Nat → Int32} {bk2 dr0 : Int32} {sh0 sh1 sh2 sh3 sh4 sh5 : Nat → Int32} {sh6 sh7 sh8 : Int32} {sp0 sp1 sp2 sp3 sp4 sp5 : Nat → Int32} {sp6 sp7 sp8 a0 : Int32} {a1 : Nat → Int32} {a2 : Int32} {a3 : Nat → Int32} {a4 : Int32} {a5 a6 a7 a8 a9 : Nat → Int32} {a10 : Int32} {a11 : Nat → Int32} {a12 a13 a14 a15 a16 a17 : Int32} {a18 : Nat → Int32} {a19 : Int32} {a20 : Nat → Int32} {a21 : Int32} {a22 a23 a24 a25 : Nat → Int32} {a26 : Int32} {a27 a28 a29 a30 : Nat → Int32} {a31 : Int32} {a32 a33 : Nat → Int32} {a34 : Int32} {a35 a36 a37 a38 : Nat → Int32}, Rel rd0 rd1 rd2 rd3 rd4 dy0 dy1 dy2 dy3 dy4 dy5 pa0 pa1 pa2 im0 im1 im2 pl0 pl1 pl2 pl3 pl4 pl5 pl6 pl7 pl8 er0 er1 er2 bk0 bk1 bk2 dr0 sh0 sh1 sh2 sh3 sh4 sh5 sh6 sh7 sh8 sp0 sp1 sp2 sp3 sp4 sp5 sp6 sp7 sp8 a0 a1 a2 a3 a4 a5 a6 a7 a8 a9 a10 a11 a12 a13 a14 a15 a16 a17 a18 a19 a20 a21 a22 a23 a24 a25 a26 a27 a28 a29 a30 a31 a32 a33 a34 a35 a36 a37 a38 → Sm p l e room_1 s m #[Value.ref b] below meth c G (fun q : Nat => s.heap.size ≤ q) 4 68 1925 (lw_Z below #[Value.ref b] s) 944 [(0, .ref b), (1, .ref (AD 10 0)), (2, .ref (ad 0)), (3, .int (nI k))] [] (wC G AD (AD 8 0) (AD 9 0) rd0 rd1 rd2 rd3 rd4 dy0 dy1 dy2 dy3 dy4 dy5 pa0 pa1 pa2 im0 im1 im2 pl0 pl1 pl2 pl3 pl4 pl5 pl6 pl7 pl8 er0 er1 er2 bk0 bk1 bk2 dr0 sh0 sh1 sh2 sh3 sh4 sh5 sh6 sh7 sh8 sp0 sp1 sp2 sp3 sp4 sp5 sp6 sp7 sp8 ++ wX10 G ad a0 a1 a2 a3 a4 a5 a6 a7 a8 a9 a10 a11 a12 a13 a14 a15 a16 a17 a18 a19 a20 a21 a22 a23 a24 a25 a26 a27 a28 a29 a30 a31 a32 a33 a34 a35 a36 a37 a38)) : Sm p l e room_1 s m #[Value.ref b] below meth c G (fun q : Nat => s.heap.size ≤ q) 4 68 1925 (lw_Z below #[Value.ref b] s) 168 [(0, .ref b), (1, .ref (AD 10 0)), (2, .ref (ad 0)), (3, .int (nI k))] [] (wC G AD (AD 8 0) (AD 9 0) rd0 rd1 rd2 rd3 rd4 dy0 dy1 dy2 dy3 dy4 dy5 pa0 pa1 pa2 im0 im1 im2 pl0 pl1 pl2 pl3 pl4 pl5 pl6 pl7 pl8 er0 er1 er2 bk0 bk1 bk2 dr0 sh0 sh1 sh2 sh3 sh4 sh5 sh6 sh7 sh8 sp0 sp1 sp2 sp3 sp4 sp5 sp6 sp7 sp8 ++ wX10 G ad a0 a1 a2 a3 a4 a5 a6 a7 a8 a9 a10 a11 a12 a13 a14 a15 a16 a17 a18 a19 a20 a21 a22 a23 a24 a25 a26 a27 a28 a29 a30 a31 a32 a33 a34 a35 a36 a37 a38) := by
  obtain ⟨hT, hF, hB, hD, hI, hP, hM, hE, hK, hS, s0⟩ := hRel
  have k_t0 : 0 ≤ a0 := hB.2.1.1
  have k_t12 : a0 ≤ 12 := hB.2.1.2
  have k_h0 : 0 ≤ a2 := hB.2.2.1.1
  have k_h4 : a2 ≤ 4 := hB.2.2.1.2
  have k_ca : 0 ≤ a4 := hB.2.2.2.1.1
  have k_cb : a4 ≤ 5 := hB.2.2.2.1.2
  have k_th : 0 < a2 → 0 < a0 := hB.2.2.2.2.1
  have k_tc : 0 < a4 → 0 < a0 := hB.2.2.2.2.2.1
  have c_t12 : sh6 ≤ 12 := by rw [hB.1.1]; exact k_t12
  have c_h0 : 0 ≤ sh7 := by rw [hB.1.2.1]; exact k_h0
  have c_h4 : sh7 ≤ 4 := by rw [hB.1.2.1]; exact k_h4
  have c_ca : 0 ≤ sh8 := by rw [hB.1.2.2]; exact k_ca
  have c_cb : sh8 ≤ 5 := by rw [hB.1.2.2]; exact k_cb
  have hc5 := clampLe (n := 5) (b := 5) rfl k_ca k_cb
  have k_n0 : 0 ≤ a9 22 := hI.1.1
  have k_n9 : a9 22 ≤ 9060 := Int32.le_iff_toInt_le.mpr hI.1.2
  have k_NI : NI 9060 a9 := DI_NI hc5 hI
  have k_u0 : 0 ≤ a26 := hP.2.1
  have k_u20 : a26 ≤ 20 := hP.2.2.1
  have c_u0 : 0 ≤ pa1 := hP.2.2.2.1
  have c_u20 : pa1 < 20 := hP.2.2.2.2.1
  have k_x0 : 0 ≤ a12 := hT.2.1
  have k_x240 : a12 ≤ 240 := hT.2.2.1
  have c_x0 : 0 ≤ rd2 := by rw [hT.1]; exact k_x0
  have c_x240 : rd2 ≤ 240 := by rw [hT.1]; exact k_x240
  have k_e0 : 0 ≤ a31 := hE.2.1
  have k_e6 : a31 ≤ 6 := hE.2.2.1
  have c_e0 : 0 ≤ er2 := by rw [hE.1]; exact k_e0
  have c_e6 : er2 ≤ 6 := by rw [hE.1]; exact k_e6
  have k_b0 : 0 ≤ a34 := hK.2.1
  have k_b15 : a34 ≤ 15 := hK.2.2.1
  have c_b0 : 0 ≤ bk2 := by rw [hK.1]; exact k_b0
  have c_b15 : bk2 ≤ 15 := by rw [hK.1]; exact k_b15
  have k_bk : ∀ j : Nat, j < a34.toNatClampNeg → vp_in (a35 j) 5 := fun j hj => by
    have z := hK.2.2.2 j hj
    rw [cl_nI _ z.2.2.1]
    exact vp_in_nI (by omega) (by decide)
  have c_bk : ∀ j : Nat, j < bk2.toNatClampNeg → vp_in (bk0 j) 5 := fun j hj => by
    rw [hK.1] at hj
    rw [(hK.2.2.2 j hj).1]
    exact k_bk j hj
  have c_hL : ∀ j : Nat, j < 5 → ¬ rX0_hasCase sh8 (nI j) = 0 → 1 ≤ sh3 j ∧ sh3 j ≤ 4 := fun j h5 hj => hL_of hB h5 hj
  have EE : rX9_feed rd2 (xs (nI k + (1 : Int32)).toNatClampNeg) = rX10_feed a12 (xs (nI k + (1 : Int32)).toNatClampNeg) ∧ Rel (sX9_feed_o0_0 rd0 rd2 (xs (nI k + (1 : Int32)).toNatClampNeg)) rd1 (sX9_feed_o0_2 rd2 (xs (nI k + (1 : Int32)).toNatClampNeg)) rd3 rd4 dy0 dy1 dy2 dy3 dy4 dy5 pa0 pa1 pa2 im0 im1 im2 pl0 pl1 pl2 pl3 pl4 pl5 pl6 pl7 pl8 er0 er1 er2 bk0 bk1 bk2 dr0 sh0 sh1 sh2 sh3 sh4 sh5 sh6 sh7 sh8 sp0 sp1 sp2 sp3 sp4 sp5 sp6 sp7 sp8 a0 a1 a2 a3 a4 a5 a6 a7 a8 a9 a10 (sX10_feed_11 a11 a12 (xs (nI k + (1 : Int32)).toNatClampNeg)) (sX10_feed_12 a12 (xs (nI k + (1 : Int32)).toNatClampNeg)) a13 a14 a15 a16 a17 a18 a19 a20 a21 a22 a23 a24 a25 a26 a27 a28 a29 a30 a31 a32 a33 a34 a35 a36 a37 a38 := by
    have z := e_feed (p0 := (xs (nI k + (1 : Int32)).toNatClampNeg)) hT
    exact ⟨z.1, z.2, hF, hB, hD, hI, hP, hM, hE, hK, hS, s0⟩
  refine s_aload_n X (pc := 168) (x := (AD 10 0)) 1 dL_law_168 rfl ?_
  refine s_aload_n X (pc := 169) (x := b) 0 dL_law_169 rfl ?_
  refine s_iload_n X (pc := 170) (x := nI k) 3 dL_law_170 rfl ?_
  refine s_iconst X (pc := 171) (v := 1) dL_law_171 (by decide) ?_
  refine s_iadd X (pc := 172) dL_law_172 ?_
  refine s_sld X (pc := 173) hX hbl (ix5 (j := 1) rfl (by decide) hk hL) dL_law_173 ?_
  refine s_callVi0 X (pc := 174) (cells := 68) (slots := 1925) (r := rX9_feed rd2 (xs (nI k + (1 : Int32)).toNatClampNeg)) (w := wC G AD (AD 8 0) (AD 9 0) rd0 rd1 rd2 rd3 rd4 dy0 dy1 dy2 dy3 dy4 dy5 pa0 pa1 pa2 im0 im1 im2 pl0 pl1 pl2 pl3 pl4 pl5 pl6 pl7 pl8 er0 er1 er2 bk0 bk1 bk2 dr0 sh0 sh1 sh2 sh3 sh4 sh5 sh6 sh7 sh8 sp0 sp1 sp2 sp3 sp4 sp5 sp6 sp7 sp8 ++ wX10 G ad a0 a1 a2 a3 a4 a5 a6 a7 a8 a9 a10 a11 a12 a13 a14 a15 a16 a17 a18 a19 a20 a21 a22 a23 a24 a25 a26 a27 a28 a29 a30 a31 a32 a33 a34 a35 a36 a37 a38) (n := 1) (st := []) (As := [.int (xs (nI k + (1 : Int32)).toNatClampNeg)]) (w2 := wC G AD (AD 8 0) (AD 9 0) (sX9_feed_o0_0 rd0 rd2 (xs (nI k + (1 : Int32)).toNatClampNeg)) rd1 (sX9_feed_o0_2 rd2 (xs (nI k + (1 : Int32)).toNatClampNeg)) rd3 rd4 dy0 dy1 dy2 dy3 dy4 dy5 pa0 pa1 pa2 im0 im1 im2 pl0 pl1 pl2 pl3 pl4 pl5 pl6 pl7 pl8 er0 er1 er2 bk0 bk1 bk2 dr0 sh0 sh1 sh2 sh3 sh4 sh5 sh6 sh7 sh8 sp0 sp1 sp2 sp3 sp4 sp5 sp6 sp7 sp8 ++ wX10 G ad a0 a1 a2 a3 a4 a5 a6 a7 a8 a9 a10 a11 a12 a13 a14 a15 a16 a17 a18 a19 a20 a21 a22 a23 a24 a25 a26 a27 a28 a29 a30 a31 a32 a33 a34 a35 a36 a37 a38) 1 (ci_fr (List.Perm.refl _) (List.Perm.refl _) [AD 10 0, AD 0 0, AD 0 1, AD 1 0, AD 1 1, AD 1 2, AD 1 3, AD 1 4, AD 1 5, AD 2 0, AD 2 1, AD 3 0, AD 3 1, AD 3 2, AD 3 3, AD 4 0, AD 4 1, AD 4 2, AD 4 3, AD 4 4, AD 4 5, AD 4 6, AD 5 0, AD 5 1, AD 5 2, AD 6 0, AD 6 1, AD 6 2, AD 7 0, AD 8 0, AD 8 1, AD 8 2, AD 8 3, AD 8 4, AD 8 5, AD 8 6, AD 9 0, AD 9 1, AD 9 2, AD 9 3, AD 9 4, AD 9 5, AD 9 6] rfl rfl (c_X9_feed l G AD rd0 rd1 rd2 rd3 rd4 dy0 dy1 dy2 dy3 dy4 dy5 pa0 pa1 pa2 im0 im1 im2 pl0 pl1 pl2 pl3 pl4 pl5 pl6 pl7 pl8 er0 er1 er2 bk0 bk1 bk2 dr0 sh0 sh1 sh2 sh3 sh4 sh5 sh6 sh7 sh8 sp0 sp1 sp2 sp3 sp4 sp5 sp6 sp7 sp8 (xs (nI k + (1 : Int32)).toNatClampNeg) (by with_reducible assumption))) gL_law_X9_feed rfl (by decide +kernel) ⟨(Nat.le_of_ble_eq_true rfl), (Nat.le_of_ble_eq_true rfl)⟩ 0 rfl rfl rfl rfl (Nat.le_of_ble_eq_true rfl) (Nat.le_of_ble_eq_true rfl) (Nat.le_of_ble_eq_true rfl) dL_law_174 ?_
  refine s_aload_n X (pc := 177) (x := (ad 0)) 2 dL_law_177 rfl ?_
  refine s_aload_n X (pc := 178) (x := b) 0 dL_law_178 rfl ?_
  refine s_iload_n X (pc := 179) (x := nI k) 3 dL_law_179 rfl ?_
  refine s_iconst X (pc := 180) (v := 1) dL_law_180 (by decide) ?_
  refine s_iadd X (pc := 181) dL_law_181 ?_
  refine s_sld X (pc := 182) hX hbl (ix5 (j := 1) rfl (by decide) hk hL) dL_law_182 ?_
  refine s_callVi0 X (pc := 183) (cells := 68) (slots := 1925) (r := rX10_feed a12 (xs (nI k + (1 : Int32)).toNatClampNeg)) (w := wC G AD (AD 8 0) (AD 9 0) (sX9_feed_o0_0 rd0 rd2 (xs (nI k + (1 : Int32)).toNatClampNeg)) rd1 (sX9_feed_o0_2 rd2 (xs (nI k + (1 : Int32)).toNatClampNeg)) rd3 rd4 dy0 dy1 dy2 dy3 dy4 dy5 pa0 pa1 pa2 im0 im1 im2 pl0 pl1 pl2 pl3 pl4 pl5 pl6 pl7 pl8 er0 er1 er2 bk0 bk1 bk2 dr0 sh0 sh1 sh2 sh3 sh4 sh5 sh6 sh7 sh8 sp0 sp1 sp2 sp3 sp4 sp5 sp6 sp7 sp8 ++ wX10 G ad a0 a1 a2 a3 a4 a5 a6 a7 a8 a9 a10 a11 a12 a13 a14 a15 a16 a17 a18 a19 a20 a21 a22 a23 a24 a25 a26 a27 a28 a29 a30 a31 a32 a33 a34 a35 a36 a37 a38) (n := 1) (st := [.int (rX9_feed rd2 (xs (nI k + (1 : Int32)).toNatClampNeg))]) (As := [.int (xs (nI k + (1 : Int32)).toNatClampNeg)]) (w2 := wC G AD (AD 8 0) (AD 9 0) (sX9_feed_o0_0 rd0 rd2 (xs (nI k + (1 : Int32)).toNatClampNeg)) rd1 (sX9_feed_o0_2 rd2 (xs (nI k + (1 : Int32)).toNatClampNeg)) rd3 rd4 dy0 dy1 dy2 dy3 dy4 dy5 pa0 pa1 pa2 im0 im1 im2 pl0 pl1 pl2 pl3 pl4 pl5 pl6 pl7 pl8 er0 er1 er2 bk0 bk1 bk2 dr0 sh0 sh1 sh2 sh3 sh4 sh5 sh6 sh7 sh8 sp0 sp1 sp2 sp3 sp4 sp5 sp6 sp7 sp8 ++ wX10 G ad a0 a1 a2 a3 a4 a5 a6 a7 a8 a9 a10 (sX10_feed_11 a11 a12 (xs (nI k + (1 : Int32)).toNatClampNeg)) (sX10_feed_12 a12 (xs (nI k + (1 : Int32)).toNatClampNeg)) a13 a14 a15 a16 a17 a18 a19 a20 a21 a22 a23 a24 a25 a26 a27 a28 a29 a30 a31 a32 a33 a34 a35 a36 a37 a38) 1 (ci_fr List.perm_append_comm List.perm_append_comm [ad 0, ad 2, ad 4, ad 6, ad 7, ad 8, ad 9, ad 10, ad 12, ad 19, ad 21, ad 23, ad 24, ad 25, ad 26, ad 28, ad 29, ad 30, ad 31, ad 33, ad 34, ad 36, ad 37, ad 38, ad 39] rfl rfl (c_X10_feed l G ad a0 a1 a2 a3 a4 a5 a6 a7 a8 a9 a10 a11 a12 a13 a14 a15 a16 a17 a18 a19 a20 a21 a22 a23 a24 a25 a26 a27 a28 a29 a30 a31 a32 a33 a34 a35 a36 a37 a38 (xs (nI k + (1 : Int32)).toNatClampNeg) (by with_reducible assumption) (by with_reducible assumption))) gL_law_X10_feed rfl (by decide +kernel) ⟨(Nat.le_of_ble_eq_true rfl), (Nat.le_of_ble_eq_true rfl)⟩ 43 rfl rfl rfl rfl (Nat.le_of_ble_eq_true rfl) (Nat.le_of_ble_eq_true rfl) (Nat.le_of_ble_eq_true rfl) dL_law_183 ?_
  refine s_icmp_eq X (pc := 186) (tgt := 944) dL_law_186 (by decide) (fun cq => ?_) (fun cq => absurd EE.1 cq)
  exact K (AD := AD) EE.2

set_option maxRecDepth 100000 in
set_option maxHeartbeats 4000000 in
theorem law_fault {p : Program} {l : Launch} {e : Env} {s : State} {m : MethodId} {below : List Frame} {meth : Method} {c : Code} {G : GT} {b L : Nat} {xs : Nat → Int32} (X : Cx p room_1 s m #[Value.ref b] meth c G (fun q : Nat => s.heap.size ≤ q) 4 cL_law wsL_law RL (some .boolean)) (hX : va_X b L xs s s.heap) (hbl : b < s.heap.size) {k : Nat} (hk : k + 5 ≤ L) (hL : L ≤ 320) {AD : Nat → Nat → Nat} {ad : Nat → Nat} {rd0 : Nat → Int32} {rd1 rd2 rd3 rd4 : Int32} {dy0 dy1 dy2 dy3 dy4 : Nat → Int32} {dy5 : Int32} {pa0 : Nat → Int32} {pa1 pa2 : Int32} {im0 im1 im2 pl0 pl1 pl2 pl3 pl4 pl5 : Nat → Int32} {pl6 pl7 pl8 : Int32} {er0 er1 : Nat → Int32} {er2 : Int32} {bk0 bk1 : Nat → Int32} {bk2 dr0 : Int32} {sh0 sh1 sh2 sh3 sh4 sh5 : Nat → Int32} {sh6 sh7 sh8 : Int32} {sp0 sp1 sp2 sp3 sp4 sp5 : Nat → Int32} {sp6 sp7 sp8 a0 : Int32} {a1 : Nat → Int32} {a2 : Int32} {a3 : Nat → Int32} {a4 : Int32} {a5 a6 a7 a8 a9 : Nat → Int32} {a10 : Int32} {a11 : Nat → Int32} {a12 a13 a14 a15 a16 a17 : Int32} {a18 : Nat → Int32} {a19 : Int32} {a20 : Nat → Int32} {a21 : Int32} {a22 a23 a24 a25 : Nat → Int32} {a26 : Int32} {a27 a28 a29 a30 : Nat → Int32} {a31 : Int32} {a32 a33 : Nat → Int32} {a34 : Int32} {a35 a36 a37 a38 : Nat → Int32} (hRel : Rel rd0 rd1 rd2 rd3 rd4 dy0 dy1 dy2 dy3 dy4 dy5 pa0 pa1 pa2 im0 im1 im2 pl0 pl1 pl2 pl3 pl4 pl5 pl6 pl7 pl8 er0 er1 er2 bk0 bk1 bk2 dr0 sh0 sh1 sh2 sh3 sh4 sh5 sh6 sh7 sh8 sp0 sp1 sp2 sp3 sp4 sp5 sp6 sp7 sp8 a0 a1 a2 a3 a4 a5 a6 a7 a8 a9 a10 a11 a12 a13 a14 a15 a16 a17 a18 a19 a20 a21 a22 a23 a24 a25 a26 a27 a28 a29 a30 a31 a32 a33 a34 a35 a36 a37 a38) (K : ∀ {AD : Nat → Nat → Nat} {rd0 : Nat → Int32} {rd1 rd2 rd3 rd4 : Int32} {dy0 dy1 dy2 dy3 dy4 : Nat → Int32} {dy5 : Int32} {pa0 : Nat → Int32} {pa1 pa2 : Int32} {im0 im1 im2 pl0 pl1 pl2 pl3 pl4 pl5 : Nat → Int32} {pl6 pl7 pl8 : Int32} {er0 er1 : Nat → Int32} {er2 : Int32} {bk0 bk1 : Nat → Int32} {bk2 dr0 : Int32} {sh0 sh1 sh2 sh3 sh4 sh5 : Nat → Int32} {sh6 sh7 sh8 : Int32} {sp0 sp1 sp2 sp3 sp4 sp5 : Nat → Int32} {sp6 sp7 sp8 a0 : Int32} {a1 : Nat → Int32} {a2 : Int32} {a3 : Nat → Int32} {a4 : Int32} {a5 a6 a7 a8 a9 : Nat → Int32} {a10 : Int32} {a11 : Nat → Int32} {a12 a13 a14 a15 a16 a17 : Int32} {a18 : Nat → Int32} {a19 : Int32} {a20 : Nat → Int32} {a21 : Int32} {a22 a23 a24 a25 : Nat → Int32} {a26 : Int32} {a27 a28 a29 a30 : Nat → Int32} {a31 : Int32} {a32 a33 : Nat → Int32} {a34 : Int32} {a35 a36 a37 a38 : Nat → Int32}, Rel rd0 rd1 rd2 rd3 rd4 dy0 dy1 dy2 dy3 dy4 dy5 pa0 pa1 pa2 im0 im1 im2 pl0 pl1 pl2 pl3 pl4 pl5 pl6 pl7 pl8 er0 er1 er2 bk0 bk1 bk2 dr0 sh0 sh1 sh2 sh3 sh4 sh5 sh6 sh7 sh8 sp0 sp1 sp2 sp3 sp4 sp5 sp6 sp7 sp8 a0 a1 a2 a3 a4 a5 a6 a7 a8 a9 a10 a11 a12 a13 a14 a15 a16 a17 a18 a19 a20 a21 a22 a23 a24 a25 a26 a27 a28 a29 a30 a31 a32 a33 a34 a35 a36 a37 a38 → Sm p l e room_1 s m #[Value.ref b] below meth c G (fun q : Nat => s.heap.size ≤ q) 4 68 1925 (lw_Z below #[Value.ref b] s) 944 [(0, .ref b), (1, .ref (AD 10 0)), (2, .ref (ad 0)), (3, .int (nI k))] [] (wC G AD (AD 8 0) (AD 9 0) rd0 rd1 rd2 rd3 rd4 dy0 dy1 dy2 dy3 dy4 dy5 pa0 pa1 pa2 im0 im1 im2 pl0 pl1 pl2 pl3 pl4 pl5 pl6 pl7 pl8 er0 er1 er2 bk0 bk1 bk2 dr0 sh0 sh1 sh2 sh3 sh4 sh5 sh6 sh7 sh8 sp0 sp1 sp2 sp3 sp4 sp5 sp6 sp7 sp8 ++ wX10 G ad a0 a1 a2 a3 a4 a5 a6 a7 a8 a9 a10 a11 a12 a13 a14 a15 a16 a17 a18 a19 a20 a21 a22 a23 a24 a25 a26 a27 a28 a29 a30 a31 a32 a33 a34 a35 a36 a37 a38)) : Sm p l e room_1 s m #[Value.ref b] below meth c G (fun q : Nat => s.heap.size ≤ q) 4 68 1925 (lw_Z below #[Value.ref b] s) 204 [(0, .ref b), (1, .ref (AD 10 0)), (2, .ref (ad 0)), (3, .int (nI k))] [] (wC G AD (AD 8 0) (AD 9 0) rd0 rd1 rd2 rd3 rd4 dy0 dy1 dy2 dy3 dy4 dy5 pa0 pa1 pa2 im0 im1 im2 pl0 pl1 pl2 pl3 pl4 pl5 pl6 pl7 pl8 er0 er1 er2 bk0 bk1 bk2 dr0 sh0 sh1 sh2 sh3 sh4 sh5 sh6 sh7 sh8 sp0 sp1 sp2 sp3 sp4 sp5 sp6 sp7 sp8 ++ wX10 G ad a0 a1 a2 a3 a4 a5 a6 a7 a8 a9 a10 a11 a12 a13 a14 a15 a16 a17 a18 a19 a20 a21 a22 a23 a24 a25 a26 a27 a28 a29 a30 a31 a32 a33 a34 a35 a36 a37 a38) := by
  obtain ⟨hT, hF, hB, hD, hI, hP, hM, hE, hK, hS, s0⟩ := hRel
  have k_t0 : 0 ≤ a0 := hB.2.1.1
  have k_t12 : a0 ≤ 12 := hB.2.1.2
  have k_h0 : 0 ≤ a2 := hB.2.2.1.1
  have k_h4 : a2 ≤ 4 := hB.2.2.1.2
  have k_ca : 0 ≤ a4 := hB.2.2.2.1.1
  have k_cb : a4 ≤ 5 := hB.2.2.2.1.2
  have k_th : 0 < a2 → 0 < a0 := hB.2.2.2.2.1
  have k_tc : 0 < a4 → 0 < a0 := hB.2.2.2.2.2.1
  have c_t12 : sh6 ≤ 12 := by rw [hB.1.1]; exact k_t12
  have c_h0 : 0 ≤ sh7 := by rw [hB.1.2.1]; exact k_h0
  have c_h4 : sh7 ≤ 4 := by rw [hB.1.2.1]; exact k_h4
  have c_ca : 0 ≤ sh8 := by rw [hB.1.2.2]; exact k_ca
  have c_cb : sh8 ≤ 5 := by rw [hB.1.2.2]; exact k_cb
  have hc5 := clampLe (n := 5) (b := 5) rfl k_ca k_cb
  have k_n0 : 0 ≤ a9 22 := hI.1.1
  have k_n9 : a9 22 ≤ 9060 := Int32.le_iff_toInt_le.mpr hI.1.2
  have k_NI : NI 9060 a9 := DI_NI hc5 hI
  have k_u0 : 0 ≤ a26 := hP.2.1
  have k_u20 : a26 ≤ 20 := hP.2.2.1
  have c_u0 : 0 ≤ pa1 := hP.2.2.2.1
  have c_u20 : pa1 < 20 := hP.2.2.2.2.1
  have k_x0 : 0 ≤ a12 := hT.2.1
  have k_x240 : a12 ≤ 240 := hT.2.2.1
  have c_x0 : 0 ≤ rd2 := by rw [hT.1]; exact k_x0
  have c_x240 : rd2 ≤ 240 := by rw [hT.1]; exact k_x240
  have k_e0 : 0 ≤ a31 := hE.2.1
  have k_e6 : a31 ≤ 6 := hE.2.2.1
  have c_e0 : 0 ≤ er2 := by rw [hE.1]; exact k_e0
  have c_e6 : er2 ≤ 6 := by rw [hE.1]; exact k_e6
  have k_b0 : 0 ≤ a34 := hK.2.1
  have k_b15 : a34 ≤ 15 := hK.2.2.1
  have c_b0 : 0 ≤ bk2 := by rw [hK.1]; exact k_b0
  have c_b15 : bk2 ≤ 15 := by rw [hK.1]; exact k_b15
  have k_bk : ∀ j : Nat, j < a34.toNatClampNeg → vp_in (a35 j) 5 := fun j hj => by
    have z := hK.2.2.2 j hj
    rw [cl_nI _ z.2.2.1]
    exact vp_in_nI (by omega) (by decide)
  have c_bk : ∀ j : Nat, j < bk2.toNatClampNeg → vp_in (bk0 j) 5 := fun j hj => by
    rw [hK.1] at hj
    rw [(hK.2.2.2 j hj).1]
    exact k_bk j hj
  have c_hL : ∀ j : Nat, j < 5 → ¬ rX0_hasCase sh8 (nI j) = 0 → 1 ≤ sh3 j ∧ sh3 j ≤ 4 := fun j h5 hj => hL_of hB h5 hj
  have EE : rX9_fault rd4 = rX10_fault a13 ∧ Rel rd0 rd1 rd2 rd3 rd4 dy0 dy1 dy2 dy3 dy4 dy5 pa0 pa1 pa2 im0 im1 im2 pl0 pl1 pl2 pl3 pl4 pl5 pl6 pl7 pl8 er0 er1 er2 bk0 bk1 bk2 dr0 sh0 sh1 sh2 sh3 sh4 sh5 sh6 sh7 sh8 sp0 sp1 sp2 sp3 sp4 sp5 sp6 sp7 sp8 a0 a1 a2 a3 a4 a5 a6 a7 a8 a9 a10 a11 a12 a13 a14 a15 a16 a17 a18 a19 a20 a21 a22 a23 a24 a25 a26 a27 a28 a29 a30 a31 a32 a33 a34 a35 a36 a37 a38 := by
    exact ⟨hF, hT, hF, hB, hD, hI, hP, hM, hE, hK, hS, s0⟩
  refine s_aload_n X (pc := 204) (x := (AD 10 0)) 1 dL_law_204 rfl ?_
  refine s_callVi0 X (pc := 205) (cells := 68) (slots := 1925) (r := rX9_fault rd4) (w := wC G AD (AD 8 0) (AD 9 0) rd0 rd1 rd2 rd3 rd4 dy0 dy1 dy2 dy3 dy4 dy5 pa0 pa1 pa2 im0 im1 im2 pl0 pl1 pl2 pl3 pl4 pl5 pl6 pl7 pl8 er0 er1 er2 bk0 bk1 bk2 dr0 sh0 sh1 sh2 sh3 sh4 sh5 sh6 sh7 sh8 sp0 sp1 sp2 sp3 sp4 sp5 sp6 sp7 sp8 ++ wX10 G ad a0 a1 a2 a3 a4 a5 a6 a7 a8 a9 a10 a11 a12 a13 a14 a15 a16 a17 a18 a19 a20 a21 a22 a23 a24 a25 a26 a27 a28 a29 a30 a31 a32 a33 a34 a35 a36 a37 a38) (n := 0) (st := []) (As := []) (w2 := wC G AD (AD 8 0) (AD 9 0) rd0 rd1 rd2 rd3 rd4 dy0 dy1 dy2 dy3 dy4 dy5 pa0 pa1 pa2 im0 im1 im2 pl0 pl1 pl2 pl3 pl4 pl5 pl6 pl7 pl8 er0 er1 er2 bk0 bk1 bk2 dr0 sh0 sh1 sh2 sh3 sh4 sh5 sh6 sh7 sh8 sp0 sp1 sp2 sp3 sp4 sp5 sp6 sp7 sp8 ++ wX10 G ad a0 a1 a2 a3 a4 a5 a6 a7 a8 a9 a10 a11 a12 a13 a14 a15 a16 a17 a18 a19 a20 a21 a22 a23 a24 a25 a26 a27 a28 a29 a30 a31 a32 a33 a34 a35 a36 a37 a38) 0 (ci_fr (List.Perm.refl _) (List.Perm.refl _) [AD 10 0, AD 0 0, AD 0 1, AD 1 0, AD 1 1, AD 1 2, AD 1 3, AD 1 4, AD 1 5, AD 2 0, AD 2 1, AD 3 0, AD 3 1, AD 3 2, AD 3 3, AD 4 0, AD 4 1, AD 4 2, AD 4 3, AD 4 4, AD 4 5, AD 4 6, AD 5 0, AD 5 1, AD 5 2, AD 6 0, AD 6 1, AD 6 2, AD 7 0, AD 8 0, AD 8 1, AD 8 2, AD 8 3, AD 8 4, AD 8 5, AD 8 6, AD 9 0, AD 9 1, AD 9 2, AD 9 3, AD 9 4, AD 9 5, AD 9 6] rfl rfl (c_X9_fault l G AD rd0 rd1 rd2 rd3 rd4 dy0 dy1 dy2 dy3 dy4 dy5 pa0 pa1 pa2 im0 im1 im2 pl0 pl1 pl2 pl3 pl4 pl5 pl6 pl7 pl8 er0 er1 er2 bk0 bk1 bk2 dr0 sh0 sh1 sh2 sh3 sh4 sh5 sh6 sh7 sh8 sp0 sp1 sp2 sp3 sp4 sp5 sp6 sp7 sp8)) gL_law_X9_fault rfl (by decide +kernel) ⟨(Nat.le_of_ble_eq_true rfl), (Nat.le_of_ble_eq_true rfl)⟩ 0 rfl rfl rfl rfl (Nat.le_of_ble_eq_true rfl) (Nat.le_of_ble_eq_true rfl) (Nat.le_of_ble_eq_true rfl) dL_law_205 ?_
  refine s_aload_n X (pc := 208) (x := (ad 0)) 2 dL_law_208 rfl ?_
  refine s_callVi0 X (pc := 209) (cells := 68) (slots := 1925) (r := rX10_fault a13) (w := wC G AD (AD 8 0) (AD 9 0) rd0 rd1 rd2 rd3 rd4 dy0 dy1 dy2 dy3 dy4 dy5 pa0 pa1 pa2 im0 im1 im2 pl0 pl1 pl2 pl3 pl4 pl5 pl6 pl7 pl8 er0 er1 er2 bk0 bk1 bk2 dr0 sh0 sh1 sh2 sh3 sh4 sh5 sh6 sh7 sh8 sp0 sp1 sp2 sp3 sp4 sp5 sp6 sp7 sp8 ++ wX10 G ad a0 a1 a2 a3 a4 a5 a6 a7 a8 a9 a10 a11 a12 a13 a14 a15 a16 a17 a18 a19 a20 a21 a22 a23 a24 a25 a26 a27 a28 a29 a30 a31 a32 a33 a34 a35 a36 a37 a38) (n := 0) (st := [.int (rX9_fault rd4)]) (As := []) (w2 := wC G AD (AD 8 0) (AD 9 0) rd0 rd1 rd2 rd3 rd4 dy0 dy1 dy2 dy3 dy4 dy5 pa0 pa1 pa2 im0 im1 im2 pl0 pl1 pl2 pl3 pl4 pl5 pl6 pl7 pl8 er0 er1 er2 bk0 bk1 bk2 dr0 sh0 sh1 sh2 sh3 sh4 sh5 sh6 sh7 sh8 sp0 sp1 sp2 sp3 sp4 sp5 sp6 sp7 sp8 ++ wX10 G ad a0 a1 a2 a3 a4 a5 a6 a7 a8 a9 a10 a11 a12 a13 a14 a15 a16 a17 a18 a19 a20 a21 a22 a23 a24 a25 a26 a27 a28 a29 a30 a31 a32 a33 a34 a35 a36 a37 a38) 0 (ci_fr List.perm_append_comm List.perm_append_comm [ad 0, ad 2, ad 4, ad 6, ad 7, ad 8, ad 9, ad 10, ad 12, ad 19, ad 21, ad 23, ad 24, ad 25, ad 26, ad 28, ad 29, ad 30, ad 31, ad 33, ad 34, ad 36, ad 37, ad 38, ad 39] rfl rfl (c_X10_fault l G ad a0 a1 a2 a3 a4 a5 a6 a7 a8 a9 a10 a11 a12 a13 a14 a15 a16 a17 a18 a19 a20 a21 a22 a23 a24 a25 a26 a27 a28 a29 a30 a31 a32 a33 a34 a35 a36 a37 a38)) gL_law_X10_fault rfl (by decide +kernel) ⟨(Nat.le_of_ble_eq_true rfl), (Nat.le_of_ble_eq_true rfl)⟩ 43 rfl rfl rfl rfl (Nat.le_of_ble_eq_true rfl) (Nat.le_of_ble_eq_true rfl) (Nat.le_of_ble_eq_true rfl) dL_law_209 ?_
  refine s_icmp_eq X (pc := 212) (tgt := 944) dL_law_212 (by decide) (fun cq => ?_) (fun cq => absurd EE.1 cq)
  exact K (AD := AD) EE.2

set_option maxRecDepth 100000 in
set_option maxHeartbeats 4000000 in
theorem law_told {p : Program} {l : Launch} {e : Env} {s : State} {m : MethodId} {below : List Frame} {meth : Method} {c : Code} {G : GT} {b L : Nat} {xs : Nat → Int32} (X : Cx p room_1 s m #[Value.ref b] meth c G (fun q : Nat => s.heap.size ≤ q) 4 cL_law wsL_law RL (some .boolean)) (hX : va_X b L xs s s.heap) (hbl : b < s.heap.size) {k : Nat} (hk : k + 5 ≤ L) (hL : L ≤ 320) {AD : Nat → Nat → Nat} {ad : Nat → Nat} {rd0 : Nat → Int32} {rd1 rd2 rd3 rd4 : Int32} {dy0 dy1 dy2 dy3 dy4 : Nat → Int32} {dy5 : Int32} {pa0 : Nat → Int32} {pa1 pa2 : Int32} {im0 im1 im2 pl0 pl1 pl2 pl3 pl4 pl5 : Nat → Int32} {pl6 pl7 pl8 : Int32} {er0 er1 : Nat → Int32} {er2 : Int32} {bk0 bk1 : Nat → Int32} {bk2 dr0 : Int32} {sh0 sh1 sh2 sh3 sh4 sh5 : Nat → Int32} {sh6 sh7 sh8 : Int32} {sp0 sp1 sp2 sp3 sp4 sp5 : Nat → Int32} {sp6 sp7 sp8 a0 : Int32} {a1 : Nat → Int32} {a2 : Int32} {a3 : Nat → Int32} {a4 : Int32} {a5 a6 a7 a8 a9 : Nat → Int32} {a10 : Int32} {a11 : Nat → Int32} {a12 a13 a14 a15 a16 a17 : Int32} {a18 : Nat → Int32} {a19 : Int32} {a20 : Nat → Int32} {a21 : Int32} {a22 a23 a24 a25 : Nat → Int32} {a26 : Int32} {a27 a28 a29 a30 : Nat → Int32} {a31 : Int32} {a32 a33 : Nat → Int32} {a34 : Int32} {a35 a36 a37 a38 : Nat → Int32} (hRel : Rel rd0 rd1 rd2 rd3 rd4 dy0 dy1 dy2 dy3 dy4 dy5 pa0 pa1 pa2 im0 im1 im2 pl0 pl1 pl2 pl3 pl4 pl5 pl6 pl7 pl8 er0 er1 er2 bk0 bk1 bk2 dr0 sh0 sh1 sh2 sh3 sh4 sh5 sh6 sh7 sh8 sp0 sp1 sp2 sp3 sp4 sp5 sp6 sp7 sp8 a0 a1 a2 a3 a4 a5 a6 a7 a8 a9 a10 a11 a12 a13 a14 a15 a16 a17 a18 a19 a20 a21 a22 a23 a24 a25 a26 a27 a28 a29 a30 a31 a32 a33 a34 a35 a36 a37 a38) (K : ∀ {AD : Nat → Nat → Nat} {rd0 : Nat → Int32} {rd1 rd2 rd3 rd4 : Int32} {dy0 dy1 dy2 dy3 dy4 : Nat → Int32} {dy5 : Int32} {pa0 : Nat → Int32} {pa1 pa2 : Int32} {im0 im1 im2 pl0 pl1 pl2 pl3 pl4 pl5 : Nat → Int32} {pl6 pl7 pl8 : Int32} {er0 er1 : Nat → Int32} {er2 : Int32} {bk0 bk1 : Nat → Int32} {bk2 dr0 : Int32} {sh0 sh1 sh2 sh3 sh4 sh5 : Nat → Int32} {sh6 sh7 sh8 : Int32} {sp0 sp1 sp2 sp3 sp4 sp5 : Nat → Int32} {sp6 sp7 sp8 a0 : Int32} {a1 : Nat → Int32} {a2 : Int32} {a3 : Nat → Int32} {a4 : Int32} {a5 a6 a7 a8 a9 : Nat → Int32} {a10 : Int32} {a11 : Nat → Int32} {a12 a13 a14 a15 a16 a17 : Int32} {a18 : Nat → Int32} {a19 : Int32} {a20 : Nat → Int32} {a21 : Int32} {a22 a23 a24 a25 : Nat → Int32} {a26 : Int32} {a27 a28 a29 a30 : Nat → Int32} {a31 : Int32} {a32 a33 : Nat → Int32} {a34 : Int32} {a35 a36 a37 a38 : Nat → Int32}, Rel rd0 rd1 rd2 rd3 rd4 dy0 dy1 dy2 dy3 dy4 dy5 pa0 pa1 pa2 im0 im1 im2 pl0 pl1 pl2 pl3 pl4 pl5 pl6 pl7 pl8 er0 er1 er2 bk0 bk1 bk2 dr0 sh0 sh1 sh2 sh3 sh4 sh5 sh6 sh7 sh8 sp0 sp1 sp2 sp3 sp4 sp5 sp6 sp7 sp8 a0 a1 a2 a3 a4 a5 a6 a7 a8 a9 a10 a11 a12 a13 a14 a15 a16 a17 a18 a19 a20 a21 a22 a23 a24 a25 a26 a27 a28 a29 a30 a31 a32 a33 a34 a35 a36 a37 a38 → Sm p l e room_1 s m #[Value.ref b] below meth c G (fun q : Nat => s.heap.size ≤ q) 4 68 1925 (lw_Z below #[Value.ref b] s) 944 [(0, .ref b), (1, .ref (AD 10 0)), (2, .ref (ad 0)), (3, .int (nI k))] [] (wC G AD (AD 8 0) (AD 9 0) rd0 rd1 rd2 rd3 rd4 dy0 dy1 dy2 dy3 dy4 dy5 pa0 pa1 pa2 im0 im1 im2 pl0 pl1 pl2 pl3 pl4 pl5 pl6 pl7 pl8 er0 er1 er2 bk0 bk1 bk2 dr0 sh0 sh1 sh2 sh3 sh4 sh5 sh6 sh7 sh8 sp0 sp1 sp2 sp3 sp4 sp5 sp6 sp7 sp8 ++ wX10 G ad a0 a1 a2 a3 a4 a5 a6 a7 a8 a9 a10 a11 a12 a13 a14 a15 a16 a17 a18 a19 a20 a21 a22 a23 a24 a25 a26 a27 a28 a29 a30 a31 a32 a33 a34 a35 a36 a37 a38)) : Sm p l e room_1 s m #[Value.ref b] below meth c G (fun q : Nat => s.heap.size ≤ q) 4 68 1925 (lw_Z below #[Value.ref b] s) 217 [(0, .ref b), (1, .ref (AD 10 0)), (2, .ref (ad 0)), (3, .int (nI k))] [] (wC G AD (AD 8 0) (AD 9 0) rd0 rd1 rd2 rd3 rd4 dy0 dy1 dy2 dy3 dy4 dy5 pa0 pa1 pa2 im0 im1 im2 pl0 pl1 pl2 pl3 pl4 pl5 pl6 pl7 pl8 er0 er1 er2 bk0 bk1 bk2 dr0 sh0 sh1 sh2 sh3 sh4 sh5 sh6 sh7 sh8 sp0 sp1 sp2 sp3 sp4 sp5 sp6 sp7 sp8 ++ wX10 G ad a0 a1 a2 a3 a4 a5 a6 a7 a8 a9 a10 a11 a12 a13 a14 a15 a16 a17 a18 a19 a20 a21 a22 a23 a24 a25 a26 a27 a28 a29 a30 a31 a32 a33 a34 a35 a36 a37 a38) := by
  obtain ⟨hT, hF, hB, hD, hI, hP, hM, hE, hK, hS, s0⟩ := hRel
  have k_t0 : 0 ≤ a0 := hB.2.1.1
  have k_t12 : a0 ≤ 12 := hB.2.1.2
  have k_h0 : 0 ≤ a2 := hB.2.2.1.1
  have k_h4 : a2 ≤ 4 := hB.2.2.1.2
  have k_ca : 0 ≤ a4 := hB.2.2.2.1.1
  have k_cb : a4 ≤ 5 := hB.2.2.2.1.2
  have k_th : 0 < a2 → 0 < a0 := hB.2.2.2.2.1
  have k_tc : 0 < a4 → 0 < a0 := hB.2.2.2.2.2.1
  have c_t12 : sh6 ≤ 12 := by rw [hB.1.1]; exact k_t12
  have c_h0 : 0 ≤ sh7 := by rw [hB.1.2.1]; exact k_h0
  have c_h4 : sh7 ≤ 4 := by rw [hB.1.2.1]; exact k_h4
  have c_ca : 0 ≤ sh8 := by rw [hB.1.2.2]; exact k_ca
  have c_cb : sh8 ≤ 5 := by rw [hB.1.2.2]; exact k_cb
  have hc5 := clampLe (n := 5) (b := 5) rfl k_ca k_cb
  have k_n0 : 0 ≤ a9 22 := hI.1.1
  have k_n9 : a9 22 ≤ 9060 := Int32.le_iff_toInt_le.mpr hI.1.2
  have k_NI : NI 9060 a9 := DI_NI hc5 hI
  have k_u0 : 0 ≤ a26 := hP.2.1
  have k_u20 : a26 ≤ 20 := hP.2.2.1
  have c_u0 : 0 ≤ pa1 := hP.2.2.2.1
  have c_u20 : pa1 < 20 := hP.2.2.2.2.1
  have k_x0 : 0 ≤ a12 := hT.2.1
  have k_x240 : a12 ≤ 240 := hT.2.2.1
  have c_x0 : 0 ≤ rd2 := by rw [hT.1]; exact k_x0
  have c_x240 : rd2 ≤ 240 := by rw [hT.1]; exact k_x240
  have k_e0 : 0 ≤ a31 := hE.2.1
  have k_e6 : a31 ≤ 6 := hE.2.2.1
  have c_e0 : 0 ≤ er2 := by rw [hE.1]; exact k_e0
  have c_e6 : er2 ≤ 6 := by rw [hE.1]; exact k_e6
  have k_b0 : 0 ≤ a34 := hK.2.1
  have k_b15 : a34 ≤ 15 := hK.2.2.1
  have c_b0 : 0 ≤ bk2 := by rw [hK.1]; exact k_b0
  have c_b15 : bk2 ≤ 15 := by rw [hK.1]; exact k_b15
  have k_bk : ∀ j : Nat, j < a34.toNatClampNeg → vp_in (a35 j) 5 := fun j hj => by
    have z := hK.2.2.2 j hj
    rw [cl_nI _ z.2.2.1]
    exact vp_in_nI (by omega) (by decide)
  have c_bk : ∀ j : Nat, j < bk2.toNatClampNeg → vp_in (bk0 j) 5 := fun j hj => by
    rw [hK.1] at hj
    rw [(hK.2.2.2 j hj).1]
    exact k_bk j hj
  have c_hL : ∀ j : Nat, j < 5 → ¬ rX0_hasCase sh8 (nI j) = 0 → 1 ≤ sh3 j ∧ sh3 j ≤ 4 := fun j h5 hj => hL_of hB h5 hj
  have EE : rX9_told rd2 dy3 dy5 pa2 er2 bk2 sh5 sh6 sh7 sh8 (xs (nI k + (1 : Int32)).toNatClampNeg) = rX10_told a0 a2 a4 a8 a9 a12 a26 a31 a34 (xs (nI k + (1 : Int32)).toNatClampNeg) ∧ Rel rd0 rd1 rd2 rd3 rd4 dy0 dy1 dy2 dy3 dy4 dy5 pa0 pa1 pa2 im0 im1 im2 pl0 pl1 pl2 pl3 pl4 pl5 pl6 pl7 pl8 er0 er1 er2 bk0 bk1 bk2 dr0 sh0 sh1 sh2 sh3 sh4 sh5 sh6 sh7 sh8 sp0 sp1 sp2 sp3 sp4 sp5 sp6 sp7 sp8 a0 a1 a2 a3 a4 a5 a6 a7 a8 a9 a10 a11 a12 a13 a14 a15 a16 a17 a18 a19 a20 a21 a22 a23 a24 a25 a26 a27 a28 a29 a30 a31 a32 a33 a34 a35 a36 a37 a38 := by
    exact ⟨e_told (rd0 := rd0) (a11 := a11) hT.1 hB hD hP.1 hE.1 hK.1, hT, hF, hB, hD, hI, hP, hM, hE, hK, hS, s0⟩
  refine s_aload_n X (pc := 217) (x := (AD 10 0)) 1 dL_law_217 rfl ?_
  refine s_aload_n X (pc := 218) (x := b) 0 dL_law_218 rfl ?_
  refine s_iload_n X (pc := 219) (x := nI k) 3 dL_law_219 rfl ?_
  refine s_iconst X (pc := 220) (v := 1) dL_law_220 (by decide) ?_
  refine s_iadd X (pc := 221) dL_law_221 ?_
  refine s_sld X (pc := 222) hX hbl (ix5 (j := 1) rfl (by decide) hk hL) dL_law_222 ?_
  refine s_callVi0 X (pc := 223) (cells := 68) (slots := 1925) (r := rX9_told rd2 dy3 dy5 pa2 er2 bk2 sh5 sh6 sh7 sh8 (xs (nI k + (1 : Int32)).toNatClampNeg)) (w := wC G AD (AD 8 0) (AD 9 0) rd0 rd1 rd2 rd3 rd4 dy0 dy1 dy2 dy3 dy4 dy5 pa0 pa1 pa2 im0 im1 im2 pl0 pl1 pl2 pl3 pl4 pl5 pl6 pl7 pl8 er0 er1 er2 bk0 bk1 bk2 dr0 sh0 sh1 sh2 sh3 sh4 sh5 sh6 sh7 sh8 sp0 sp1 sp2 sp3 sp4 sp5 sp6 sp7 sp8 ++ wX10 G ad a0 a1 a2 a3 a4 a5 a6 a7 a8 a9 a10 a11 a12 a13 a14 a15 a16 a17 a18 a19 a20 a21 a22 a23 a24 a25 a26 a27 a28 a29 a30 a31 a32 a33 a34 a35 a36 a37 a38) (n := 1) (st := []) (As := [.int (xs (nI k + (1 : Int32)).toNatClampNeg)]) (w2 := wC G AD (AD 8 0) (AD 9 0) rd0 rd1 rd2 rd3 rd4 dy0 dy1 dy2 dy3 dy4 dy5 pa0 pa1 pa2 im0 im1 im2 pl0 pl1 pl2 pl3 pl4 pl5 pl6 pl7 pl8 er0 er1 er2 bk0 bk1 bk2 dr0 sh0 sh1 sh2 sh3 sh4 sh5 sh6 sh7 sh8 sp0 sp1 sp2 sp3 sp4 sp5 sp6 sp7 sp8 ++ wX10 G ad a0 a1 a2 a3 a4 a5 a6 a7 a8 a9 a10 a11 a12 a13 a14 a15 a16 a17 a18 a19 a20 a21 a22 a23 a24 a25 a26 a27 a28 a29 a30 a31 a32 a33 a34 a35 a36 a37 a38) 1 (ci_fr (List.Perm.refl _) (List.Perm.refl _) [AD 10 0, AD 0 0, AD 0 1, AD 1 0, AD 1 1, AD 1 2, AD 1 3, AD 1 4, AD 1 5, AD 2 0, AD 2 1, AD 3 0, AD 3 1, AD 3 2, AD 3 3, AD 4 0, AD 4 1, AD 4 2, AD 4 3, AD 4 4, AD 4 5, AD 4 6, AD 5 0, AD 5 1, AD 5 2, AD 6 0, AD 6 1, AD 6 2, AD 7 0, AD 8 0, AD 8 1, AD 8 2, AD 8 3, AD 8 4, AD 8 5, AD 8 6, AD 9 0, AD 9 1, AD 9 2, AD 9 3, AD 9 4, AD 9 5, AD 9 6] rfl rfl (c_X9_told l G AD rd0 rd1 rd2 rd3 rd4 dy0 dy1 dy2 dy3 dy4 dy5 pa0 pa1 pa2 im0 im1 im2 pl0 pl1 pl2 pl3 pl4 pl5 pl6 pl7 pl8 er0 er1 er2 bk0 bk1 bk2 dr0 sh0 sh1 sh2 sh3 sh4 sh5 sh6 sh7 sh8 sp0 sp1 sp2 sp3 sp4 sp5 sp6 sp7 sp8 (xs (nI k + (1 : Int32)).toNatClampNeg) (by with_reducible assumption) (by with_reducible assumption))) gL_law_X9_told rfl (by decide +kernel) ⟨(Nat.le_of_ble_eq_true rfl), (Nat.le_of_ble_eq_true rfl)⟩ 0 rfl rfl rfl rfl (Nat.le_of_ble_eq_true rfl) (Nat.le_of_ble_eq_true rfl) (Nat.le_of_ble_eq_true rfl) dL_law_223 ?_
  refine s_aload_n X (pc := 226) (x := (ad 0)) 2 dL_law_226 rfl ?_
  refine s_aload_n X (pc := 227) (x := b) 0 dL_law_227 rfl ?_
  refine s_iload_n X (pc := 228) (x := nI k) 3 dL_law_228 rfl ?_
  refine s_iconst X (pc := 229) (v := 1) dL_law_229 (by decide) ?_
  refine s_iadd X (pc := 230) dL_law_230 ?_
  refine s_sld X (pc := 231) hX hbl (ix5 (j := 1) rfl (by decide) hk hL) dL_law_231 ?_
  refine s_callVi0 X (pc := 232) (cells := 68) (slots := 1925) (r := rX10_told a0 a2 a4 a8 a9 a12 a26 a31 a34 (xs (nI k + (1 : Int32)).toNatClampNeg)) (w := wC G AD (AD 8 0) (AD 9 0) rd0 rd1 rd2 rd3 rd4 dy0 dy1 dy2 dy3 dy4 dy5 pa0 pa1 pa2 im0 im1 im2 pl0 pl1 pl2 pl3 pl4 pl5 pl6 pl7 pl8 er0 er1 er2 bk0 bk1 bk2 dr0 sh0 sh1 sh2 sh3 sh4 sh5 sh6 sh7 sh8 sp0 sp1 sp2 sp3 sp4 sp5 sp6 sp7 sp8 ++ wX10 G ad a0 a1 a2 a3 a4 a5 a6 a7 a8 a9 a10 a11 a12 a13 a14 a15 a16 a17 a18 a19 a20 a21 a22 a23 a24 a25 a26 a27 a28 a29 a30 a31 a32 a33 a34 a35 a36 a37 a38) (n := 1) (st := [.int (rX9_told rd2 dy3 dy5 pa2 er2 bk2 sh5 sh6 sh7 sh8 (xs (nI k + (1 : Int32)).toNatClampNeg))]) (As := [.int (xs (nI k + (1 : Int32)).toNatClampNeg)]) (w2 := wC G AD (AD 8 0) (AD 9 0) rd0 rd1 rd2 rd3 rd4 dy0 dy1 dy2 dy3 dy4 dy5 pa0 pa1 pa2 im0 im1 im2 pl0 pl1 pl2 pl3 pl4 pl5 pl6 pl7 pl8 er0 er1 er2 bk0 bk1 bk2 dr0 sh0 sh1 sh2 sh3 sh4 sh5 sh6 sh7 sh8 sp0 sp1 sp2 sp3 sp4 sp5 sp6 sp7 sp8 ++ wX10 G ad a0 a1 a2 a3 a4 a5 a6 a7 a8 a9 a10 a11 a12 a13 a14 a15 a16 a17 a18 a19 a20 a21 a22 a23 a24 a25 a26 a27 a28 a29 a30 a31 a32 a33 a34 a35 a36 a37 a38) 1 (ci_fr List.perm_append_comm List.perm_append_comm [ad 0, ad 2, ad 4, ad 6, ad 7, ad 8, ad 9, ad 10, ad 12, ad 19, ad 21, ad 23, ad 24, ad 25, ad 26, ad 28, ad 29, ad 30, ad 31, ad 33, ad 34, ad 36, ad 37, ad 38, ad 39] rfl rfl (c_X10_told l G ad a0 a1 a2 a3 a4 a5 a6 a7 a8 a9 a10 a11 a12 a13 a14 a15 a16 a17 a18 a19 a20 a21 a22 a23 a24 a25 a26 a27 a28 a29 a30 a31 a32 a33 a34 a35 a36 a37 a38 (xs (nI k + (1 : Int32)).toNatClampNeg) (by with_reducible assumption) (by with_reducible assumption))) gL_law_X10_told rfl (by decide +kernel) ⟨(Nat.le_of_ble_eq_true rfl), (Nat.le_of_ble_eq_true rfl)⟩ 43 rfl rfl rfl rfl (Nat.le_of_ble_eq_true rfl) (Nat.le_of_ble_eq_true rfl) (Nat.le_of_ble_eq_true rfl) dL_law_232 ?_
  refine s_icmp_eq X (pc := 235) (tgt := 944) dL_law_235 (by decide) (fun cq => ?_) (fun cq => absurd EE.1 cq)
  exact K (AD := AD) EE.2

set_option maxRecDepth 100000 in
set_option maxHeartbeats 4000000 in
theorem law_depth {p : Program} {l : Launch} {e : Env} {s : State} {m : MethodId} {below : List Frame} {meth : Method} {c : Code} {G : GT} {b L : Nat} {xs : Nat → Int32} (X : Cx p room_1 s m #[Value.ref b] meth c G (fun q : Nat => s.heap.size ≤ q) 4 cL_law wsL_law RL (some .boolean)) (hX : va_X b L xs s s.heap) (hbl : b < s.heap.size) {k : Nat} (hk : k + 5 ≤ L) (hL : L ≤ 320) {AD : Nat → Nat → Nat} {ad : Nat → Nat} {rd0 : Nat → Int32} {rd1 rd2 rd3 rd4 : Int32} {dy0 dy1 dy2 dy3 dy4 : Nat → Int32} {dy5 : Int32} {pa0 : Nat → Int32} {pa1 pa2 : Int32} {im0 im1 im2 pl0 pl1 pl2 pl3 pl4 pl5 : Nat → Int32} {pl6 pl7 pl8 : Int32} {er0 er1 : Nat → Int32} {er2 : Int32} {bk0 bk1 : Nat → Int32} {bk2 dr0 : Int32} {sh0 sh1 sh2 sh3 sh4 sh5 : Nat → Int32} {sh6 sh7 sh8 : Int32} {sp0 sp1 sp2 sp3 sp4 sp5 : Nat → Int32} {sp6 sp7 sp8 a0 : Int32} {a1 : Nat → Int32} {a2 : Int32} {a3 : Nat → Int32} {a4 : Int32} {a5 a6 a7 a8 a9 : Nat → Int32} {a10 : Int32} {a11 : Nat → Int32} {a12 a13 a14 a15 a16 a17 : Int32} {a18 : Nat → Int32} {a19 : Int32} {a20 : Nat → Int32} {a21 : Int32} {a22 a23 a24 a25 : Nat → Int32} {a26 : Int32} {a27 a28 a29 a30 : Nat → Int32} {a31 : Int32} {a32 a33 : Nat → Int32} {a34 : Int32} {a35 a36 a37 a38 : Nat → Int32} (hRel : Rel rd0 rd1 rd2 rd3 rd4 dy0 dy1 dy2 dy3 dy4 dy5 pa0 pa1 pa2 im0 im1 im2 pl0 pl1 pl2 pl3 pl4 pl5 pl6 pl7 pl8 er0 er1 er2 bk0 bk1 bk2 dr0 sh0 sh1 sh2 sh3 sh4 sh5 sh6 sh7 sh8 sp0 sp1 sp2 sp3 sp4 sp5 sp6 sp7 sp8 a0 a1 a2 a3 a4 a5 a6 a7 a8 a9 a10 a11 a12 a13 a14 a15 a16 a17 a18 a19 a20 a21 a22 a23 a24 a25 a26 a27 a28 a29 a30 a31 a32 a33 a34 a35 a36 a37 a38) (K : ∀ {AD : Nat → Nat → Nat} {rd0 : Nat → Int32} {rd1 rd2 rd3 rd4 : Int32} {dy0 dy1 dy2 dy3 dy4 : Nat → Int32} {dy5 : Int32} {pa0 : Nat → Int32} {pa1 pa2 : Int32} {im0 im1 im2 pl0 pl1 pl2 pl3 pl4 pl5 : Nat → Int32} {pl6 pl7 pl8 : Int32} {er0 er1 : Nat → Int32} {er2 : Int32} {bk0 bk1 : Nat → Int32} {bk2 dr0 : Int32} {sh0 sh1 sh2 sh3 sh4 sh5 : Nat → Int32} {sh6 sh7 sh8 : Int32} {sp0 sp1 sp2 sp3 sp4 sp5 : Nat → Int32} {sp6 sp7 sp8 a0 : Int32} {a1 : Nat → Int32} {a2 : Int32} {a3 : Nat → Int32} {a4 : Int32} {a5 a6 a7 a8 a9 : Nat → Int32} {a10 : Int32} {a11 : Nat → Int32} {a12 a13 a14 a15 a16 a17 : Int32} {a18 : Nat → Int32} {a19 : Int32} {a20 : Nat → Int32} {a21 : Int32} {a22 a23 a24 a25 : Nat → Int32} {a26 : Int32} {a27 a28 a29 a30 : Nat → Int32} {a31 : Int32} {a32 a33 : Nat → Int32} {a34 : Int32} {a35 a36 a37 a38 : Nat → Int32}, Rel rd0 rd1 rd2 rd3 rd4 dy0 dy1 dy2 dy3 dy4 dy5 pa0 pa1 pa2 im0 im1 im2 pl0 pl1 pl2 pl3 pl4 pl5 pl6 pl7 pl8 er0 er1 er2 bk0 bk1 bk2 dr0 sh0 sh1 sh2 sh3 sh4 sh5 sh6 sh7 sh8 sp0 sp1 sp2 sp3 sp4 sp5 sp6 sp7 sp8 a0 a1 a2 a3 a4 a5 a6 a7 a8 a9 a10 a11 a12 a13 a14 a15 a16 a17 a18 a19 a20 a21 a22 a23 a24 a25 a26 a27 a28 a29 a30 a31 a32 a33 a34 a35 a36 a37 a38 → Sm p l e room_1 s m #[Value.ref b] below meth c G (fun q : Nat => s.heap.size ≤ q) 4 68 1925 (lw_Z below #[Value.ref b] s) 944 [(0, .ref b), (1, .ref (AD 10 0)), (2, .ref (ad 0)), (3, .int (nI k))] [] (wC G AD (AD 8 0) (AD 9 0) rd0 rd1 rd2 rd3 rd4 dy0 dy1 dy2 dy3 dy4 dy5 pa0 pa1 pa2 im0 im1 im2 pl0 pl1 pl2 pl3 pl4 pl5 pl6 pl7 pl8 er0 er1 er2 bk0 bk1 bk2 dr0 sh0 sh1 sh2 sh3 sh4 sh5 sh6 sh7 sh8 sp0 sp1 sp2 sp3 sp4 sp5 sp6 sp7 sp8 ++ wX10 G ad a0 a1 a2 a3 a4 a5 a6 a7 a8 a9 a10 a11 a12 a13 a14 a15 a16 a17 a18 a19 a20 a21 a22 a23 a24 a25 a26 a27 a28 a29 a30 a31 a32 a33 a34 a35 a36 a37 a38)) : Sm p l e room_1 s m #[Value.ref b] below meth c G (fun q : Nat => s.heap.size ≤ q) 4 68 1925 (lw_Z below #[Value.ref b] s) 240 [(0, .ref b), (1, .ref (AD 10 0)), (2, .ref (ad 0)), (3, .int (nI k))] [] (wC G AD (AD 8 0) (AD 9 0) rd0 rd1 rd2 rd3 rd4 dy0 dy1 dy2 dy3 dy4 dy5 pa0 pa1 pa2 im0 im1 im2 pl0 pl1 pl2 pl3 pl4 pl5 pl6 pl7 pl8 er0 er1 er2 bk0 bk1 bk2 dr0 sh0 sh1 sh2 sh3 sh4 sh5 sh6 sh7 sh8 sp0 sp1 sp2 sp3 sp4 sp5 sp6 sp7 sp8 ++ wX10 G ad a0 a1 a2 a3 a4 a5 a6 a7 a8 a9 a10 a11 a12 a13 a14 a15 a16 a17 a18 a19 a20 a21 a22 a23 a24 a25 a26 a27 a28 a29 a30 a31 a32 a33 a34 a35 a36 a37 a38) := by
  obtain ⟨hT, hF, hB, hD, hI, hP, hM, hE, hK, hS, s0⟩ := hRel
  have k_t0 : 0 ≤ a0 := hB.2.1.1
  have k_t12 : a0 ≤ 12 := hB.2.1.2
  have k_h0 : 0 ≤ a2 := hB.2.2.1.1
  have k_h4 : a2 ≤ 4 := hB.2.2.1.2
  have k_ca : 0 ≤ a4 := hB.2.2.2.1.1
  have k_cb : a4 ≤ 5 := hB.2.2.2.1.2
  have k_th : 0 < a2 → 0 < a0 := hB.2.2.2.2.1
  have k_tc : 0 < a4 → 0 < a0 := hB.2.2.2.2.2.1
  have c_t12 : sh6 ≤ 12 := by rw [hB.1.1]; exact k_t12
  have c_h0 : 0 ≤ sh7 := by rw [hB.1.2.1]; exact k_h0
  have c_h4 : sh7 ≤ 4 := by rw [hB.1.2.1]; exact k_h4
  have c_ca : 0 ≤ sh8 := by rw [hB.1.2.2]; exact k_ca
  have c_cb : sh8 ≤ 5 := by rw [hB.1.2.2]; exact k_cb
  have hc5 := clampLe (n := 5) (b := 5) rfl k_ca k_cb
  have k_n0 : 0 ≤ a9 22 := hI.1.1
  have k_n9 : a9 22 ≤ 9060 := Int32.le_iff_toInt_le.mpr hI.1.2
  have k_NI : NI 9060 a9 := DI_NI hc5 hI
  have k_u0 : 0 ≤ a26 := hP.2.1
  have k_u20 : a26 ≤ 20 := hP.2.2.1
  have c_u0 : 0 ≤ pa1 := hP.2.2.2.1
  have c_u20 : pa1 < 20 := hP.2.2.2.2.1
  have k_x0 : 0 ≤ a12 := hT.2.1
  have k_x240 : a12 ≤ 240 := hT.2.2.1
  have c_x0 : 0 ≤ rd2 := by rw [hT.1]; exact k_x0
  have c_x240 : rd2 ≤ 240 := by rw [hT.1]; exact k_x240
  have k_e0 : 0 ≤ a31 := hE.2.1
  have k_e6 : a31 ≤ 6 := hE.2.2.1
  have c_e0 : 0 ≤ er2 := by rw [hE.1]; exact k_e0
  have c_e6 : er2 ≤ 6 := by rw [hE.1]; exact k_e6
  have k_b0 : 0 ≤ a34 := hK.2.1
  have k_b15 : a34 ≤ 15 := hK.2.2.1
  have c_b0 : 0 ≤ bk2 := by rw [hK.1]; exact k_b0
  have c_b15 : bk2 ≤ 15 := by rw [hK.1]; exact k_b15
  have k_bk : ∀ j : Nat, j < a34.toNatClampNeg → vp_in (a35 j) 5 := fun j hj => by
    have z := hK.2.2.2 j hj
    rw [cl_nI _ z.2.2.1]
    exact vp_in_nI (by omega) (by decide)
  have c_bk : ∀ j : Nat, j < bk2.toNatClampNeg → vp_in (bk0 j) 5 := fun j hj => by
    rw [hK.1] at hj
    rw [(hK.2.2.2 j hj).1]
    exact k_bk j hj
  have c_hL : ∀ j : Nat, j < 5 → ¬ rX0_hasCase sh8 (nI j) = 0 → 1 ≤ sh3 j ∧ sh3 j ≤ 4 := fun j h5 hj => hL_of hB h5 hj
  have EE : rX9_depth dy5 sh0 sh6 (xs (nI k + (1 : Int32)).toNatClampNeg) (xs (nI k + (2 : Int32)).toNatClampNeg) = rX10_depth a0 a1 a9 (xs (nI k + (1 : Int32)).toNatClampNeg) (xs (nI k + (2 : Int32)).toNatClampNeg) ∧ Rel rd0 rd1 rd2 rd3 rd4 dy0 dy1 dy2 dy3 dy4 dy5 pa0 pa1 pa2 im0 im1 im2 pl0 pl1 pl2 pl3 pl4 pl5 pl6 pl7 pl8 er0 er1 er2 bk0 bk1 bk2 dr0 sh0 sh1 sh2 sh3 sh4 sh5 sh6 sh7 sh8 sp0 sp1 sp2 sp3 sp4 sp5 sp6 sp7 sp8 a0 a1 a2 a3 a4 a5 a6 a7 a8 a9 a10 a11 a12 a13 a14 a15 a16 a17 a18 a19 a20 a21 a22 a23 a24 a25 a26 a27 a28 a29 a30 a31 a32 a33 a34 a35 a36 a37 a38 := by
    exact ⟨e_depth hB hD hI, hT, hF, hB, hD, hI, hP, hM, hE, hK, hS, s0⟩
  refine s_aload_n X (pc := 240) (x := (AD 10 0)) 1 dL_law_240 rfl ?_
  refine s_aload_n X (pc := 241) (x := b) 0 dL_law_241 rfl ?_
  refine s_iload_n X (pc := 242) (x := nI k) 3 dL_law_242 rfl ?_
  refine s_iconst X (pc := 243) (v := 1) dL_law_243 (by decide) ?_
  refine s_iadd X (pc := 244) dL_law_244 ?_
  refine s_sld X (pc := 245) hX hbl (ix5 (j := 1) rfl (by decide) hk hL) dL_law_245 ?_
  refine s_aload_n X (pc := 246) (x := b) 0 dL_law_246 rfl ?_
  refine s_iload_n X (pc := 247) (x := nI k) 3 dL_law_247 rfl ?_
  refine s_iconst X (pc := 248) (v := 2) dL_law_248 (by decide) ?_
  refine s_iadd X (pc := 249) dL_law_249 ?_
  refine s_sld X (pc := 250) hX hbl (ix5 (j := 2) rfl (by decide) hk hL) dL_law_250 ?_
  refine s_callVi0 X (pc := 251) (cells := 68) (slots := 1925) (r := rX9_depth dy5 sh0 sh6 (xs (nI k + (1 : Int32)).toNatClampNeg) (xs (nI k + (2 : Int32)).toNatClampNeg)) (w := wC G AD (AD 8 0) (AD 9 0) rd0 rd1 rd2 rd3 rd4 dy0 dy1 dy2 dy3 dy4 dy5 pa0 pa1 pa2 im0 im1 im2 pl0 pl1 pl2 pl3 pl4 pl5 pl6 pl7 pl8 er0 er1 er2 bk0 bk1 bk2 dr0 sh0 sh1 sh2 sh3 sh4 sh5 sh6 sh7 sh8 sp0 sp1 sp2 sp3 sp4 sp5 sp6 sp7 sp8 ++ wX10 G ad a0 a1 a2 a3 a4 a5 a6 a7 a8 a9 a10 a11 a12 a13 a14 a15 a16 a17 a18 a19 a20 a21 a22 a23 a24 a25 a26 a27 a28 a29 a30 a31 a32 a33 a34 a35 a36 a37 a38) (n := 2) (st := []) (As := [.int (xs (nI k + (1 : Int32)).toNatClampNeg), .int (xs (nI k + (2 : Int32)).toNatClampNeg)]) (w2 := wC G AD (AD 8 0) (AD 9 0) rd0 rd1 rd2 rd3 rd4 dy0 dy1 dy2 dy3 dy4 dy5 pa0 pa1 pa2 im0 im1 im2 pl0 pl1 pl2 pl3 pl4 pl5 pl6 pl7 pl8 er0 er1 er2 bk0 bk1 bk2 dr0 sh0 sh1 sh2 sh3 sh4 sh5 sh6 sh7 sh8 sp0 sp1 sp2 sp3 sp4 sp5 sp6 sp7 sp8 ++ wX10 G ad a0 a1 a2 a3 a4 a5 a6 a7 a8 a9 a10 a11 a12 a13 a14 a15 a16 a17 a18 a19 a20 a21 a22 a23 a24 a25 a26 a27 a28 a29 a30 a31 a32 a33 a34 a35 a36 a37 a38) 2 (ci_fr (List.Perm.refl _) (List.Perm.refl _) [AD 10 0, AD 0 0, AD 0 1, AD 1 0, AD 1 1, AD 1 2, AD 1 3, AD 1 4, AD 1 5, AD 2 0, AD 2 1, AD 3 0, AD 3 1, AD 3 2, AD 3 3, AD 4 0, AD 4 1, AD 4 2, AD 4 3, AD 4 4, AD 4 5, AD 4 6, AD 5 0, AD 5 1, AD 5 2, AD 6 0, AD 6 1, AD 6 2, AD 7 0, AD 8 0, AD 8 1, AD 8 2, AD 8 3, AD 8 4, AD 8 5, AD 8 6, AD 9 0, AD 9 1, AD 9 2, AD 9 3, AD 9 4, AD 9 5, AD 9 6] rfl rfl (c_X9_depth l G AD rd0 rd1 rd2 rd3 rd4 dy0 dy1 dy2 dy3 dy4 dy5 pa0 pa1 pa2 im0 im1 im2 pl0 pl1 pl2 pl3 pl4 pl5 pl6 pl7 pl8 er0 er1 er2 bk0 bk1 bk2 dr0 sh0 sh1 sh2 sh3 sh4 sh5 sh6 sh7 sh8 sp0 sp1 sp2 sp3 sp4 sp5 sp6 sp7 sp8 (xs (nI k + (1 : Int32)).toNatClampNeg) (xs (nI k + (2 : Int32)).toNatClampNeg) (by with_reducible assumption))) gL_law_X9_depth rfl (by decide +kernel) ⟨(Nat.le_of_ble_eq_true rfl), (Nat.le_of_ble_eq_true rfl)⟩ 0 rfl rfl rfl rfl (Nat.le_of_ble_eq_true rfl) (Nat.le_of_ble_eq_true rfl) (Nat.le_of_ble_eq_true rfl) dL_law_251 ?_
  refine s_aload_n X (pc := 254) (x := (ad 0)) 2 dL_law_254 rfl ?_
  refine s_aload_n X (pc := 255) (x := b) 0 dL_law_255 rfl ?_
  refine s_iload_n X (pc := 256) (x := nI k) 3 dL_law_256 rfl ?_
  refine s_iconst X (pc := 257) (v := 1) dL_law_257 (by decide) ?_
  refine s_iadd X (pc := 258) dL_law_258 ?_
  refine s_sld X (pc := 259) hX hbl (ix5 (j := 1) rfl (by decide) hk hL) dL_law_259 ?_
  refine s_aload_n X (pc := 260) (x := b) 0 dL_law_260 rfl ?_
  refine s_iload_n X (pc := 261) (x := nI k) 3 dL_law_261 rfl ?_
  refine s_iconst X (pc := 262) (v := 2) dL_law_262 (by decide) ?_
  refine s_iadd X (pc := 263) dL_law_263 ?_
  refine s_sld X (pc := 264) hX hbl (ix5 (j := 2) rfl (by decide) hk hL) dL_law_264 ?_
  refine s_callVi0 X (pc := 265) (cells := 68) (slots := 1925) (r := rX10_depth a0 a1 a9 (xs (nI k + (1 : Int32)).toNatClampNeg) (xs (nI k + (2 : Int32)).toNatClampNeg)) (w := wC G AD (AD 8 0) (AD 9 0) rd0 rd1 rd2 rd3 rd4 dy0 dy1 dy2 dy3 dy4 dy5 pa0 pa1 pa2 im0 im1 im2 pl0 pl1 pl2 pl3 pl4 pl5 pl6 pl7 pl8 er0 er1 er2 bk0 bk1 bk2 dr0 sh0 sh1 sh2 sh3 sh4 sh5 sh6 sh7 sh8 sp0 sp1 sp2 sp3 sp4 sp5 sp6 sp7 sp8 ++ wX10 G ad a0 a1 a2 a3 a4 a5 a6 a7 a8 a9 a10 a11 a12 a13 a14 a15 a16 a17 a18 a19 a20 a21 a22 a23 a24 a25 a26 a27 a28 a29 a30 a31 a32 a33 a34 a35 a36 a37 a38) (n := 2) (st := [.int (rX9_depth dy5 sh0 sh6 (xs (nI k + (1 : Int32)).toNatClampNeg) (xs (nI k + (2 : Int32)).toNatClampNeg))]) (As := [.int (xs (nI k + (1 : Int32)).toNatClampNeg), .int (xs (nI k + (2 : Int32)).toNatClampNeg)]) (w2 := wC G AD (AD 8 0) (AD 9 0) rd0 rd1 rd2 rd3 rd4 dy0 dy1 dy2 dy3 dy4 dy5 pa0 pa1 pa2 im0 im1 im2 pl0 pl1 pl2 pl3 pl4 pl5 pl6 pl7 pl8 er0 er1 er2 bk0 bk1 bk2 dr0 sh0 sh1 sh2 sh3 sh4 sh5 sh6 sh7 sh8 sp0 sp1 sp2 sp3 sp4 sp5 sp6 sp7 sp8 ++ wX10 G ad a0 a1 a2 a3 a4 a5 a6 a7 a8 a9 a10 a11 a12 a13 a14 a15 a16 a17 a18 a19 a20 a21 a22 a23 a24 a25 a26 a27 a28 a29 a30 a31 a32 a33 a34 a35 a36 a37 a38) 2 (ci_fr List.perm_append_comm List.perm_append_comm [ad 0, ad 2, ad 4, ad 6, ad 7, ad 8, ad 9, ad 10, ad 12, ad 19, ad 21, ad 23, ad 24, ad 25, ad 26, ad 28, ad 29, ad 30, ad 31, ad 33, ad 34, ad 36, ad 37, ad 38, ad 39] rfl rfl (c_X10_depth l G ad a0 a1 a2 a3 a4 a5 a6 a7 a8 a9 a10 a11 a12 a13 a14 a15 a16 a17 a18 a19 a20 a21 a22 a23 a24 a25 a26 a27 a28 a29 a30 a31 a32 a33 a34 a35 a36 a37 a38 (xs (nI k + (1 : Int32)).toNatClampNeg) (xs (nI k + (2 : Int32)).toNatClampNeg) (by with_reducible assumption) (by with_reducible assumption) (by with_reducible assumption) (by with_reducible assumption))) gL_law_X10_depth rfl (by decide +kernel) ⟨(Nat.le_of_ble_eq_true rfl), (Nat.le_of_ble_eq_true rfl)⟩ 43 rfl rfl rfl rfl (Nat.le_of_ble_eq_true rfl) (Nat.le_of_ble_eq_true rfl) (Nat.le_of_ble_eq_true rfl) dL_law_265 ?_
  refine s_icmp_eq X (pc := 268) (tgt := 944) dL_law_268 (by decide) (fun cq => ?_) (fun cq => absurd EE.1 cq)
  exact K (AD := AD) EE.2

set_option maxRecDepth 100000 in
set_option maxHeartbeats 4000000 in
theorem law_hut {p : Program} {l : Launch} {e : Env} {s : State} {m : MethodId} {below : List Frame} {meth : Method} {c : Code} {G : GT} {b L : Nat} {xs : Nat → Int32} (X : Cx p room_1 s m #[Value.ref b] meth c G (fun q : Nat => s.heap.size ≤ q) 4 cL_law wsL_law RL (some .boolean)) (hX : va_X b L xs s s.heap) (hbl : b < s.heap.size) {k : Nat} (hk : k + 5 ≤ L) (hL : L ≤ 320) {AD : Nat → Nat → Nat} {ad : Nat → Nat} {rd0 : Nat → Int32} {rd1 rd2 rd3 rd4 : Int32} {dy0 dy1 dy2 dy3 dy4 : Nat → Int32} {dy5 : Int32} {pa0 : Nat → Int32} {pa1 pa2 : Int32} {im0 im1 im2 pl0 pl1 pl2 pl3 pl4 pl5 : Nat → Int32} {pl6 pl7 pl8 : Int32} {er0 er1 : Nat → Int32} {er2 : Int32} {bk0 bk1 : Nat → Int32} {bk2 dr0 : Int32} {sh0 sh1 sh2 sh3 sh4 sh5 : Nat → Int32} {sh6 sh7 sh8 : Int32} {sp0 sp1 sp2 sp3 sp4 sp5 : Nat → Int32} {sp6 sp7 sp8 a0 : Int32} {a1 : Nat → Int32} {a2 : Int32} {a3 : Nat → Int32} {a4 : Int32} {a5 a6 a7 a8 a9 : Nat → Int32} {a10 : Int32} {a11 : Nat → Int32} {a12 a13 a14 a15 a16 a17 : Int32} {a18 : Nat → Int32} {a19 : Int32} {a20 : Nat → Int32} {a21 : Int32} {a22 a23 a24 a25 : Nat → Int32} {a26 : Int32} {a27 a28 a29 a30 : Nat → Int32} {a31 : Int32} {a32 a33 : Nat → Int32} {a34 : Int32} {a35 a36 a37 a38 : Nat → Int32} (hRel : Rel rd0 rd1 rd2 rd3 rd4 dy0 dy1 dy2 dy3 dy4 dy5 pa0 pa1 pa2 im0 im1 im2 pl0 pl1 pl2 pl3 pl4 pl5 pl6 pl7 pl8 er0 er1 er2 bk0 bk1 bk2 dr0 sh0 sh1 sh2 sh3 sh4 sh5 sh6 sh7 sh8 sp0 sp1 sp2 sp3 sp4 sp5 sp6 sp7 sp8 a0 a1 a2 a3 a4 a5 a6 a7 a8 a9 a10 a11 a12 a13 a14 a15 a16 a17 a18 a19 a20 a21 a22 a23 a24 a25 a26 a27 a28 a29 a30 a31 a32 a33 a34 a35 a36 a37 a38) (K : ∀ {AD : Nat → Nat → Nat} {rd0 : Nat → Int32} {rd1 rd2 rd3 rd4 : Int32} {dy0 dy1 dy2 dy3 dy4 : Nat → Int32} {dy5 : Int32} {pa0 : Nat → Int32} {pa1 pa2 : Int32} {im0 im1 im2 pl0 pl1 pl2 pl3 pl4 pl5 : Nat → Int32} {pl6 pl7 pl8 : Int32} {er0 er1 : Nat → Int32} {er2 : Int32} {bk0 bk1 : Nat → Int32} {bk2 dr0 : Int32} {sh0 sh1 sh2 sh3 sh4 sh5 : Nat → Int32} {sh6 sh7 sh8 : Int32} {sp0 sp1 sp2 sp3 sp4 sp5 : Nat → Int32} {sp6 sp7 sp8 a0 : Int32} {a1 : Nat → Int32} {a2 : Int32} {a3 : Nat → Int32} {a4 : Int32} {a5 a6 a7 a8 a9 : Nat → Int32} {a10 : Int32} {a11 : Nat → Int32} {a12 a13 a14 a15 a16 a17 : Int32} {a18 : Nat → Int32} {a19 : Int32} {a20 : Nat → Int32} {a21 : Int32} {a22 a23 a24 a25 : Nat → Int32} {a26 : Int32} {a27 a28 a29 a30 : Nat → Int32} {a31 : Int32} {a32 a33 : Nat → Int32} {a34 : Int32} {a35 a36 a37 a38 : Nat → Int32}, Rel rd0 rd1 rd2 rd3 rd4 dy0 dy1 dy2 dy3 dy4 dy5 pa0 pa1 pa2 im0 im1 im2 pl0 pl1 pl2 pl3 pl4 pl5 pl6 pl7 pl8 er0 er1 er2 bk0 bk1 bk2 dr0 sh0 sh1 sh2 sh3 sh4 sh5 sh6 sh7 sh8 sp0 sp1 sp2 sp3 sp4 sp5 sp6 sp7 sp8 a0 a1 a2 a3 a4 a5 a6 a7 a8 a9 a10 a11 a12 a13 a14 a15 a16 a17 a18 a19 a20 a21 a22 a23 a24 a25 a26 a27 a28 a29 a30 a31 a32 a33 a34 a35 a36 a37 a38 → Sm p l e room_1 s m #[Value.ref b] below meth c G (fun q : Nat => s.heap.size ≤ q) 4 68 1925 (lw_Z below #[Value.ref b] s) 944 [(0, .ref b), (1, .ref (AD 10 0)), (2, .ref (ad 0)), (3, .int (nI k))] [] (wC G AD (AD 8 0) (AD 9 0) rd0 rd1 rd2 rd3 rd4 dy0 dy1 dy2 dy3 dy4 dy5 pa0 pa1 pa2 im0 im1 im2 pl0 pl1 pl2 pl3 pl4 pl5 pl6 pl7 pl8 er0 er1 er2 bk0 bk1 bk2 dr0 sh0 sh1 sh2 sh3 sh4 sh5 sh6 sh7 sh8 sp0 sp1 sp2 sp3 sp4 sp5 sp6 sp7 sp8 ++ wX10 G ad a0 a1 a2 a3 a4 a5 a6 a7 a8 a9 a10 a11 a12 a13 a14 a15 a16 a17 a18 a19 a20 a21 a22 a23 a24 a25 a26 a27 a28 a29 a30 a31 a32 a33 a34 a35 a36 a37 a38)) : Sm p l e room_1 s m #[Value.ref b] below meth c G (fun q : Nat => s.heap.size ≤ q) 4 68 1925 (lw_Z below #[Value.ref b] s) 273 [(0, .ref b), (1, .ref (AD 10 0)), (2, .ref (ad 0)), (3, .int (nI k))] [] (wC G AD (AD 8 0) (AD 9 0) rd0 rd1 rd2 rd3 rd4 dy0 dy1 dy2 dy3 dy4 dy5 pa0 pa1 pa2 im0 im1 im2 pl0 pl1 pl2 pl3 pl4 pl5 pl6 pl7 pl8 er0 er1 er2 bk0 bk1 bk2 dr0 sh0 sh1 sh2 sh3 sh4 sh5 sh6 sh7 sh8 sp0 sp1 sp2 sp3 sp4 sp5 sp6 sp7 sp8 ++ wX10 G ad a0 a1 a2 a3 a4 a5 a6 a7 a8 a9 a10 a11 a12 a13 a14 a15 a16 a17 a18 a19 a20 a21 a22 a23 a24 a25 a26 a27 a28 a29 a30 a31 a32 a33 a34 a35 a36 a37 a38) := by
  obtain ⟨hT, hF, hB, hD, hI, hP, hM, hE, hK, hS, s0⟩ := hRel
  have k_t0 : 0 ≤ a0 := hB.2.1.1
  have k_t12 : a0 ≤ 12 := hB.2.1.2
  have k_h0 : 0 ≤ a2 := hB.2.2.1.1
  have k_h4 : a2 ≤ 4 := hB.2.2.1.2
  have k_ca : 0 ≤ a4 := hB.2.2.2.1.1
  have k_cb : a4 ≤ 5 := hB.2.2.2.1.2
  have k_th : 0 < a2 → 0 < a0 := hB.2.2.2.2.1
  have k_tc : 0 < a4 → 0 < a0 := hB.2.2.2.2.2.1
  have c_t12 : sh6 ≤ 12 := by rw [hB.1.1]; exact k_t12
  have c_h0 : 0 ≤ sh7 := by rw [hB.1.2.1]; exact k_h0
  have c_h4 : sh7 ≤ 4 := by rw [hB.1.2.1]; exact k_h4
  have c_ca : 0 ≤ sh8 := by rw [hB.1.2.2]; exact k_ca
  have c_cb : sh8 ≤ 5 := by rw [hB.1.2.2]; exact k_cb
  have hc5 := clampLe (n := 5) (b := 5) rfl k_ca k_cb
  have k_n0 : 0 ≤ a9 22 := hI.1.1
  have k_n9 : a9 22 ≤ 9060 := Int32.le_iff_toInt_le.mpr hI.1.2
  have k_NI : NI 9060 a9 := DI_NI hc5 hI
  have k_u0 : 0 ≤ a26 := hP.2.1
  have k_u20 : a26 ≤ 20 := hP.2.2.1
  have c_u0 : 0 ≤ pa1 := hP.2.2.2.1
  have c_u20 : pa1 < 20 := hP.2.2.2.2.1
  have k_x0 : 0 ≤ a12 := hT.2.1
  have k_x240 : a12 ≤ 240 := hT.2.2.1
  have c_x0 : 0 ≤ rd2 := by rw [hT.1]; exact k_x0
  have c_x240 : rd2 ≤ 240 := by rw [hT.1]; exact k_x240
  have k_e0 : 0 ≤ a31 := hE.2.1
  have k_e6 : a31 ≤ 6 := hE.2.2.1
  have c_e0 : 0 ≤ er2 := by rw [hE.1]; exact k_e0
  have c_e6 : er2 ≤ 6 := by rw [hE.1]; exact k_e6
  have k_b0 : 0 ≤ a34 := hK.2.1
  have k_b15 : a34 ≤ 15 := hK.2.2.1
  have c_b0 : 0 ≤ bk2 := by rw [hK.1]; exact k_b0
  have c_b15 : bk2 ≤ 15 := by rw [hK.1]; exact k_b15
  have k_bk : ∀ j : Nat, j < a34.toNatClampNeg → vp_in (a35 j) 5 := fun j hj => by
    have z := hK.2.2.2 j hj
    rw [cl_nI _ z.2.2.1]
    exact vp_in_nI (by omega) (by decide)
  have c_bk : ∀ j : Nat, j < bk2.toNatClampNeg → vp_in (bk0 j) 5 := fun j hj => by
    rw [hK.1] at hj
    rw [(hK.2.2.2 j hj).1]
    exact k_bk j hj
  have c_hL : ∀ j : Nat, j < 5 → ¬ rX0_hasCase sh8 (nI j) = 0 → 1 ≤ sh3 j ∧ sh3 j ≤ 4 := fun j h5 hj => hL_of hB h5 hj
  have EE : rX9_hut dy0 dy1 dy2 sh1 sh7 (xs (nI k + (1 : Int32)).toNatClampNeg) (xs (nI k + (2 : Int32)).toNatClampNeg) = rX10_hut a2 a3 a9 (xs (nI k + (1 : Int32)).toNatClampNeg) (xs (nI k + (2 : Int32)).toNatClampNeg) ∧ Rel rd0 rd1 rd2 rd3 rd4 dy0 dy1 dy2 dy3 dy4 dy5 pa0 pa1 pa2 im0 im1 im2 pl0 pl1 pl2 pl3 pl4 pl5 pl6 pl7 pl8 er0 er1 er2 bk0 bk1 bk2 dr0 sh0 sh1 sh2 sh3 sh4 sh5 sh6 sh7 sh8 sp0 sp1 sp2 sp3 sp4 sp5 sp6 sp7 sp8 a0 a1 a2 a3 a4 a5 a6 a7 a8 a9 a10 a11 a12 a13 a14 a15 a16 a17 a18 a19 a20 a21 a22 a23 a24 a25 a26 a27 a28 a29 a30 a31 a32 a33 a34 a35 a36 a37 a38 := by
    exact ⟨e_hut hB hD, hT, hF, hB, hD, hI, hP, hM, hE, hK, hS, s0⟩
  refine s_aload_n X (pc := 273) (x := (AD 10 0)) 1 dL_law_273 rfl ?_
  refine s_aload_n X (pc := 274) (x := b) 0 dL_law_274 rfl ?_
  refine s_iload_n X (pc := 275) (x := nI k) 3 dL_law_275 rfl ?_
  refine s_iconst X (pc := 276) (v := 1) dL_law_276 (by decide) ?_
  refine s_iadd X (pc := 277) dL_law_277 ?_
  refine s_sld X (pc := 278) hX hbl (ix5 (j := 1) rfl (by decide) hk hL) dL_law_278 ?_
  refine s_aload_n X (pc := 279) (x := b) 0 dL_law_279 rfl ?_
  refine s_iload_n X (pc := 280) (x := nI k) 3 dL_law_280 rfl ?_
  refine s_iconst X (pc := 281) (v := 2) dL_law_281 (by decide) ?_
  refine s_iadd X (pc := 282) dL_law_282 ?_
  refine s_sld X (pc := 283) hX hbl (ix5 (j := 2) rfl (by decide) hk hL) dL_law_283 ?_
  refine s_callVi0 X (pc := 284) (cells := 68) (slots := 1925) (r := rX9_hut dy0 dy1 dy2 sh1 sh7 (xs (nI k + (1 : Int32)).toNatClampNeg) (xs (nI k + (2 : Int32)).toNatClampNeg)) (w := wC G AD (AD 8 0) (AD 9 0) rd0 rd1 rd2 rd3 rd4 dy0 dy1 dy2 dy3 dy4 dy5 pa0 pa1 pa2 im0 im1 im2 pl0 pl1 pl2 pl3 pl4 pl5 pl6 pl7 pl8 er0 er1 er2 bk0 bk1 bk2 dr0 sh0 sh1 sh2 sh3 sh4 sh5 sh6 sh7 sh8 sp0 sp1 sp2 sp3 sp4 sp5 sp6 sp7 sp8 ++ wX10 G ad a0 a1 a2 a3 a4 a5 a6 a7 a8 a9 a10 a11 a12 a13 a14 a15 a16 a17 a18 a19 a20 a21 a22 a23 a24 a25 a26 a27 a28 a29 a30 a31 a32 a33 a34 a35 a36 a37 a38) (n := 2) (st := []) (As := [.int (xs (nI k + (1 : Int32)).toNatClampNeg), .int (xs (nI k + (2 : Int32)).toNatClampNeg)]) (w2 := wC G AD (AD 8 0) (AD 9 0) rd0 rd1 rd2 rd3 rd4 dy0 dy1 dy2 dy3 dy4 dy5 pa0 pa1 pa2 im0 im1 im2 pl0 pl1 pl2 pl3 pl4 pl5 pl6 pl7 pl8 er0 er1 er2 bk0 bk1 bk2 dr0 sh0 sh1 sh2 sh3 sh4 sh5 sh6 sh7 sh8 sp0 sp1 sp2 sp3 sp4 sp5 sp6 sp7 sp8 ++ wX10 G ad a0 a1 a2 a3 a4 a5 a6 a7 a8 a9 a10 a11 a12 a13 a14 a15 a16 a17 a18 a19 a20 a21 a22 a23 a24 a25 a26 a27 a28 a29 a30 a31 a32 a33 a34 a35 a36 a37 a38) 1 (ci_fr (List.Perm.refl _) (List.Perm.refl _) [AD 10 0, AD 0 0, AD 0 1, AD 1 0, AD 1 1, AD 1 2, AD 1 3, AD 1 4, AD 1 5, AD 2 0, AD 2 1, AD 3 0, AD 3 1, AD 3 2, AD 3 3, AD 4 0, AD 4 1, AD 4 2, AD 4 3, AD 4 4, AD 4 5, AD 4 6, AD 5 0, AD 5 1, AD 5 2, AD 6 0, AD 6 1, AD 6 2, AD 7 0, AD 8 0, AD 8 1, AD 8 2, AD 8 3, AD 8 4, AD 8 5, AD 8 6, AD 9 0, AD 9 1, AD 9 2, AD 9 3, AD 9 4, AD 9 5, AD 9 6] rfl rfl (c_X9_hut l G AD rd0 rd1 rd2 rd3 rd4 dy0 dy1 dy2 dy3 dy4 dy5 pa0 pa1 pa2 im0 im1 im2 pl0 pl1 pl2 pl3 pl4 pl5 pl6 pl7 pl8 er0 er1 er2 bk0 bk1 bk2 dr0 sh0 sh1 sh2 sh3 sh4 sh5 sh6 sh7 sh8 sp0 sp1 sp2 sp3 sp4 sp5 sp6 sp7 sp8 (xs (nI k + (1 : Int32)).toNatClampNeg) (xs (nI k + (2 : Int32)).toNatClampNeg) (by with_reducible assumption) (by with_reducible assumption))) gL_law_X9_hut rfl (by decide +kernel) ⟨(Nat.le_of_ble_eq_true rfl), (Nat.le_of_ble_eq_true rfl)⟩ 0 rfl rfl rfl rfl (Nat.le_of_ble_eq_true rfl) (Nat.le_of_ble_eq_true rfl) (Nat.le_of_ble_eq_true rfl) dL_law_284 ?_
  refine s_aload_n X (pc := 287) (x := (ad 0)) 2 dL_law_287 rfl ?_
  refine s_aload_n X (pc := 288) (x := b) 0 dL_law_288 rfl ?_
  refine s_iload_n X (pc := 289) (x := nI k) 3 dL_law_289 rfl ?_
  refine s_iconst X (pc := 290) (v := 1) dL_law_290 (by decide) ?_
  refine s_iadd X (pc := 291) dL_law_291 ?_
  refine s_sld X (pc := 292) hX hbl (ix5 (j := 1) rfl (by decide) hk hL) dL_law_292 ?_
  refine s_aload_n X (pc := 293) (x := b) 0 dL_law_293 rfl ?_
  refine s_iload_n X (pc := 294) (x := nI k) 3 dL_law_294 rfl ?_
  refine s_iconst X (pc := 295) (v := 2) dL_law_295 (by decide) ?_
  refine s_iadd X (pc := 296) dL_law_296 ?_
  refine s_sld X (pc := 297) hX hbl (ix5 (j := 2) rfl (by decide) hk hL) dL_law_297 ?_
  refine s_callVi0 X (pc := 298) (cells := 68) (slots := 1925) (r := rX10_hut a2 a3 a9 (xs (nI k + (1 : Int32)).toNatClampNeg) (xs (nI k + (2 : Int32)).toNatClampNeg)) (w := wC G AD (AD 8 0) (AD 9 0) rd0 rd1 rd2 rd3 rd4 dy0 dy1 dy2 dy3 dy4 dy5 pa0 pa1 pa2 im0 im1 im2 pl0 pl1 pl2 pl3 pl4 pl5 pl6 pl7 pl8 er0 er1 er2 bk0 bk1 bk2 dr0 sh0 sh1 sh2 sh3 sh4 sh5 sh6 sh7 sh8 sp0 sp1 sp2 sp3 sp4 sp5 sp6 sp7 sp8 ++ wX10 G ad a0 a1 a2 a3 a4 a5 a6 a7 a8 a9 a10 a11 a12 a13 a14 a15 a16 a17 a18 a19 a20 a21 a22 a23 a24 a25 a26 a27 a28 a29 a30 a31 a32 a33 a34 a35 a36 a37 a38) (n := 2) (st := [.int (rX9_hut dy0 dy1 dy2 sh1 sh7 (xs (nI k + (1 : Int32)).toNatClampNeg) (xs (nI k + (2 : Int32)).toNatClampNeg))]) (As := [.int (xs (nI k + (1 : Int32)).toNatClampNeg), .int (xs (nI k + (2 : Int32)).toNatClampNeg)]) (w2 := wC G AD (AD 8 0) (AD 9 0) rd0 rd1 rd2 rd3 rd4 dy0 dy1 dy2 dy3 dy4 dy5 pa0 pa1 pa2 im0 im1 im2 pl0 pl1 pl2 pl3 pl4 pl5 pl6 pl7 pl8 er0 er1 er2 bk0 bk1 bk2 dr0 sh0 sh1 sh2 sh3 sh4 sh5 sh6 sh7 sh8 sp0 sp1 sp2 sp3 sp4 sp5 sp6 sp7 sp8 ++ wX10 G ad a0 a1 a2 a3 a4 a5 a6 a7 a8 a9 a10 a11 a12 a13 a14 a15 a16 a17 a18 a19 a20 a21 a22 a23 a24 a25 a26 a27 a28 a29 a30 a31 a32 a33 a34 a35 a36 a37 a38) 2 (ci_fr List.perm_append_comm List.perm_append_comm [ad 0, ad 2, ad 4, ad 6, ad 7, ad 8, ad 9, ad 10, ad 12, ad 19, ad 21, ad 23, ad 24, ad 25, ad 26, ad 28, ad 29, ad 30, ad 31, ad 33, ad 34, ad 36, ad 37, ad 38, ad 39] rfl rfl (c_X10_hut l G ad a0 a1 a2 a3 a4 a5 a6 a7 a8 a9 a10 a11 a12 a13 a14 a15 a16 a17 a18 a19 a20 a21 a22 a23 a24 a25 a26 a27 a28 a29 a30 a31 a32 a33 a34 a35 a36 a37 a38 (xs (nI k + (1 : Int32)).toNatClampNeg) (xs (nI k + (2 : Int32)).toNatClampNeg) (by with_reducible assumption) (by with_reducible assumption))) gL_law_X10_hut rfl (by decide +kernel) ⟨(Nat.le_of_ble_eq_true rfl), (Nat.le_of_ble_eq_true rfl)⟩ 43 rfl rfl rfl rfl (Nat.le_of_ble_eq_true rfl) (Nat.le_of_ble_eq_true rfl) (Nat.le_of_ble_eq_true rfl) dL_law_298 ?_
  refine s_icmp_eq X (pc := 301) (tgt := 944) dL_law_301 (by decide) (fun cq => ?_) (fun cq => absurd EE.1 cq)
  exact K (AD := AD) EE.2

set_option maxRecDepth 100000 in
set_option maxHeartbeats 4000000 in
theorem law_legal {p : Program} {l : Launch} {e : Env} {s : State} {m : MethodId} {below : List Frame} {meth : Method} {c : Code} {G : GT} {b L : Nat} {xs : Nat → Int32} (X : Cx p room_1 s m #[Value.ref b] meth c G (fun q : Nat => s.heap.size ≤ q) 4 cL_law wsL_law RL (some .boolean)) (hX : va_X b L xs s s.heap) (hbl : b < s.heap.size) {k : Nat} (hk : k + 5 ≤ L) (hL : L ≤ 320) {AD : Nat → Nat → Nat} {ad : Nat → Nat} {rd0 : Nat → Int32} {rd1 rd2 rd3 rd4 : Int32} {dy0 dy1 dy2 dy3 dy4 : Nat → Int32} {dy5 : Int32} {pa0 : Nat → Int32} {pa1 pa2 : Int32} {im0 im1 im2 pl0 pl1 pl2 pl3 pl4 pl5 : Nat → Int32} {pl6 pl7 pl8 : Int32} {er0 er1 : Nat → Int32} {er2 : Int32} {bk0 bk1 : Nat → Int32} {bk2 dr0 : Int32} {sh0 sh1 sh2 sh3 sh4 sh5 : Nat → Int32} {sh6 sh7 sh8 : Int32} {sp0 sp1 sp2 sp3 sp4 sp5 : Nat → Int32} {sp6 sp7 sp8 a0 : Int32} {a1 : Nat → Int32} {a2 : Int32} {a3 : Nat → Int32} {a4 : Int32} {a5 a6 a7 a8 a9 : Nat → Int32} {a10 : Int32} {a11 : Nat → Int32} {a12 a13 a14 a15 a16 a17 : Int32} {a18 : Nat → Int32} {a19 : Int32} {a20 : Nat → Int32} {a21 : Int32} {a22 a23 a24 a25 : Nat → Int32} {a26 : Int32} {a27 a28 a29 a30 : Nat → Int32} {a31 : Int32} {a32 a33 : Nat → Int32} {a34 : Int32} {a35 a36 a37 a38 : Nat → Int32} (hRel : Rel rd0 rd1 rd2 rd3 rd4 dy0 dy1 dy2 dy3 dy4 dy5 pa0 pa1 pa2 im0 im1 im2 pl0 pl1 pl2 pl3 pl4 pl5 pl6 pl7 pl8 er0 er1 er2 bk0 bk1 bk2 dr0 sh0 sh1 sh2 sh3 sh4 sh5 sh6 sh7 sh8 sp0 sp1 sp2 sp3 sp4 sp5 sp6 sp7 sp8 a0 a1 a2 a3 a4 a5 a6 a7 a8 a9 a10 a11 a12 a13 a14 a15 a16 a17 a18 a19 a20 a21 a22 a23 a24 a25 a26 a27 a28 a29 a30 a31 a32 a33 a34 a35 a36 a37 a38) (K : ∀ {AD : Nat → Nat → Nat} {rd0 : Nat → Int32} {rd1 rd2 rd3 rd4 : Int32} {dy0 dy1 dy2 dy3 dy4 : Nat → Int32} {dy5 : Int32} {pa0 : Nat → Int32} {pa1 pa2 : Int32} {im0 im1 im2 pl0 pl1 pl2 pl3 pl4 pl5 : Nat → Int32} {pl6 pl7 pl8 : Int32} {er0 er1 : Nat → Int32} {er2 : Int32} {bk0 bk1 : Nat → Int32} {bk2 dr0 : Int32} {sh0 sh1 sh2 sh3 sh4 sh5 : Nat → Int32} {sh6 sh7 sh8 : Int32} {sp0 sp1 sp2 sp3 sp4 sp5 : Nat → Int32} {sp6 sp7 sp8 a0 : Int32} {a1 : Nat → Int32} {a2 : Int32} {a3 : Nat → Int32} {a4 : Int32} {a5 a6 a7 a8 a9 : Nat → Int32} {a10 : Int32} {a11 : Nat → Int32} {a12 a13 a14 a15 a16 a17 : Int32} {a18 : Nat → Int32} {a19 : Int32} {a20 : Nat → Int32} {a21 : Int32} {a22 a23 a24 a25 : Nat → Int32} {a26 : Int32} {a27 a28 a29 a30 : Nat → Int32} {a31 : Int32} {a32 a33 : Nat → Int32} {a34 : Int32} {a35 a36 a37 a38 : Nat → Int32}, Rel rd0 rd1 rd2 rd3 rd4 dy0 dy1 dy2 dy3 dy4 dy5 pa0 pa1 pa2 im0 im1 im2 pl0 pl1 pl2 pl3 pl4 pl5 pl6 pl7 pl8 er0 er1 er2 bk0 bk1 bk2 dr0 sh0 sh1 sh2 sh3 sh4 sh5 sh6 sh7 sh8 sp0 sp1 sp2 sp3 sp4 sp5 sp6 sp7 sp8 a0 a1 a2 a3 a4 a5 a6 a7 a8 a9 a10 a11 a12 a13 a14 a15 a16 a17 a18 a19 a20 a21 a22 a23 a24 a25 a26 a27 a28 a29 a30 a31 a32 a33 a34 a35 a36 a37 a38 → Sm p l e room_1 s m #[Value.ref b] below meth c G (fun q : Nat => s.heap.size ≤ q) 4 68 1925 (lw_Z below #[Value.ref b] s) 944 [(0, .ref b), (1, .ref (AD 10 0)), (2, .ref (ad 0)), (3, .int (nI k))] [] (wC G AD (AD 8 0) (AD 9 0) rd0 rd1 rd2 rd3 rd4 dy0 dy1 dy2 dy3 dy4 dy5 pa0 pa1 pa2 im0 im1 im2 pl0 pl1 pl2 pl3 pl4 pl5 pl6 pl7 pl8 er0 er1 er2 bk0 bk1 bk2 dr0 sh0 sh1 sh2 sh3 sh4 sh5 sh6 sh7 sh8 sp0 sp1 sp2 sp3 sp4 sp5 sp6 sp7 sp8 ++ wX10 G ad a0 a1 a2 a3 a4 a5 a6 a7 a8 a9 a10 a11 a12 a13 a14 a15 a16 a17 a18 a19 a20 a21 a22 a23 a24 a25 a26 a27 a28 a29 a30 a31 a32 a33 a34 a35 a36 a37 a38)) : Sm p l e room_1 s m #[Value.ref b] below meth c G (fun q : Nat => s.heap.size ≤ q) 4 68 1925 (lw_Z below #[Value.ref b] s) 306 [(0, .ref b), (1, .ref (AD 10 0)), (2, .ref (ad 0)), (3, .int (nI k))] [] (wC G AD (AD 8 0) (AD 9 0) rd0 rd1 rd2 rd3 rd4 dy0 dy1 dy2 dy3 dy4 dy5 pa0 pa1 pa2 im0 im1 im2 pl0 pl1 pl2 pl3 pl4 pl5 pl6 pl7 pl8 er0 er1 er2 bk0 bk1 bk2 dr0 sh0 sh1 sh2 sh3 sh4 sh5 sh6 sh7 sh8 sp0 sp1 sp2 sp3 sp4 sp5 sp6 sp7 sp8 ++ wX10 G ad a0 a1 a2 a3 a4 a5 a6 a7 a8 a9 a10 a11 a12 a13 a14 a15 a16 a17 a18 a19 a20 a21 a22 a23 a24 a25 a26 a27 a28 a29 a30 a31 a32 a33 a34 a35 a36 a37 a38) := by
  obtain ⟨hT, hF, hB, hD, hI, hP, hM, hE, hK, hS, s0⟩ := hRel
  have k_t0 : 0 ≤ a0 := hB.2.1.1
  have k_t12 : a0 ≤ 12 := hB.2.1.2
  have k_h0 : 0 ≤ a2 := hB.2.2.1.1
  have k_h4 : a2 ≤ 4 := hB.2.2.1.2
  have k_ca : 0 ≤ a4 := hB.2.2.2.1.1
  have k_cb : a4 ≤ 5 := hB.2.2.2.1.2
  have k_th : 0 < a2 → 0 < a0 := hB.2.2.2.2.1
  have k_tc : 0 < a4 → 0 < a0 := hB.2.2.2.2.2.1
  have c_t12 : sh6 ≤ 12 := by rw [hB.1.1]; exact k_t12
  have c_h0 : 0 ≤ sh7 := by rw [hB.1.2.1]; exact k_h0
  have c_h4 : sh7 ≤ 4 := by rw [hB.1.2.1]; exact k_h4
  have c_ca : 0 ≤ sh8 := by rw [hB.1.2.2]; exact k_ca
  have c_cb : sh8 ≤ 5 := by rw [hB.1.2.2]; exact k_cb
  have hc5 := clampLe (n := 5) (b := 5) rfl k_ca k_cb
  have k_n0 : 0 ≤ a9 22 := hI.1.1
  have k_n9 : a9 22 ≤ 9060 := Int32.le_iff_toInt_le.mpr hI.1.2
  have k_NI : NI 9060 a9 := DI_NI hc5 hI
  have k_u0 : 0 ≤ a26 := hP.2.1
  have k_u20 : a26 ≤ 20 := hP.2.2.1
  have c_u0 : 0 ≤ pa1 := hP.2.2.2.1
  have c_u20 : pa1 < 20 := hP.2.2.2.2.1
  have k_x0 : 0 ≤ a12 := hT.2.1
  have k_x240 : a12 ≤ 240 := hT.2.2.1
  have c_x0 : 0 ≤ rd2 := by rw [hT.1]; exact k_x0
  have c_x240 : rd2 ≤ 240 := by rw [hT.1]; exact k_x240
  have k_e0 : 0 ≤ a31 := hE.2.1
  have k_e6 : a31 ≤ 6 := hE.2.2.1
  have c_e0 : 0 ≤ er2 := by rw [hE.1]; exact k_e0
  have c_e6 : er2 ≤ 6 := by rw [hE.1]; exact k_e6
  have k_b0 : 0 ≤ a34 := hK.2.1
  have k_b15 : a34 ≤ 15 := hK.2.2.1
  have c_b0 : 0 ≤ bk2 := by rw [hK.1]; exact k_b0
  have c_b15 : bk2 ≤ 15 := by rw [hK.1]; exact k_b15
  have k_bk : ∀ j : Nat, j < a34.toNatClampNeg → vp_in (a35 j) 5 := fun j hj => by
    have z := hK.2.2.2 j hj
    rw [cl_nI _ z.2.2.1]
    exact vp_in_nI (by omega) (by decide)
  have c_bk : ∀ j : Nat, j < bk2.toNatClampNeg → vp_in (bk0 j) 5 := fun j hj => by
    rw [hK.1] at hj
    rw [(hK.2.2.2 j hj).1]
    exact k_bk j hj
  have c_hL : ∀ j : Nat, j < 5 → ¬ rX0_hasCase sh8 (nI j) = 0 → 1 ≤ sh3 j ∧ sh3 j ≤ 4 := fun j h5 hj => hL_of hB h5 hj
  have EE : rX9_legal dy3 dy4 sh2 sh3 sh4 sh5 sh8 (xs (nI k + (1 : Int32)).toNatClampNeg) (xs (nI k + (2 : Int32)).toNatClampNeg) = rX10_legal a4 a5 a6 a7 a8 a9 (xs (nI k + (1 : Int32)).toNatClampNeg) (xs (nI k + (2 : Int32)).toNatClampNeg) ∧ Rel rd0 rd1 rd2 rd3 rd4 dy0 dy1 dy2 dy3 dy4 dy5 pa0 pa1 pa2 im0 im1 im2 pl0 pl1 pl2 pl3 pl4 pl5 pl6 pl7 pl8 er0 er1 er2 bk0 bk1 bk2 dr0 sh0 sh1 sh2 sh3 sh4 sh5 sh6 sh7 sh8 sp0 sp1 sp2 sp3 sp4 sp5 sp6 sp7 sp8 a0 a1 a2 a3 a4 a5 a6 a7 a8 a9 a10 a11 a12 a13 a14 a15 a16 a17 a18 a19 a20 a21 a22 a23 a24 a25 a26 a27 a28 a29 a30 a31 a32 a33 a34 a35 a36 a37 a38 := by
    exact ⟨e_legal hB hD, hT, hF, hB, hD, hI, hP, hM, hE, hK, hS, s0⟩
  refine s_aload_n X (pc := 306) (x := (AD 10 0)) 1 dL_law_306 rfl ?_
  refine s_aload_n X (pc := 307) (x := b) 0 dL_law_307 rfl ?_
  refine s_iload_n X (pc := 308) (x := nI k) 3 dL_law_308 rfl ?_
  refine s_iconst X (pc := 309) (v := 1) dL_law_309 (by decide) ?_
  refine s_iadd X (pc := 310) dL_law_310 ?_
  refine s_sld X (pc := 311) hX hbl (ix5 (j := 1) rfl (by decide) hk hL) dL_law_311 ?_
  refine s_aload_n X (pc := 312) (x := b) 0 dL_law_312 rfl ?_
  refine s_iload_n X (pc := 313) (x := nI k) 3 dL_law_313 rfl ?_
  refine s_iconst X (pc := 314) (v := 2) dL_law_314 (by decide) ?_
  refine s_iadd X (pc := 315) dL_law_315 ?_
  refine s_sld X (pc := 316) hX hbl (ix5 (j := 2) rfl (by decide) hk hL) dL_law_316 ?_
  refine s_callVi0 X (pc := 317) (cells := 68) (slots := 1925) (r := rX9_legal dy3 dy4 sh2 sh3 sh4 sh5 sh8 (xs (nI k + (1 : Int32)).toNatClampNeg) (xs (nI k + (2 : Int32)).toNatClampNeg)) (w := wC G AD (AD 8 0) (AD 9 0) rd0 rd1 rd2 rd3 rd4 dy0 dy1 dy2 dy3 dy4 dy5 pa0 pa1 pa2 im0 im1 im2 pl0 pl1 pl2 pl3 pl4 pl5 pl6 pl7 pl8 er0 er1 er2 bk0 bk1 bk2 dr0 sh0 sh1 sh2 sh3 sh4 sh5 sh6 sh7 sh8 sp0 sp1 sp2 sp3 sp4 sp5 sp6 sp7 sp8 ++ wX10 G ad a0 a1 a2 a3 a4 a5 a6 a7 a8 a9 a10 a11 a12 a13 a14 a15 a16 a17 a18 a19 a20 a21 a22 a23 a24 a25 a26 a27 a28 a29 a30 a31 a32 a33 a34 a35 a36 a37 a38) (n := 2) (st := []) (As := [.int (xs (nI k + (1 : Int32)).toNatClampNeg), .int (xs (nI k + (2 : Int32)).toNatClampNeg)]) (w2 := wC G AD (AD 8 0) (AD 9 0) rd0 rd1 rd2 rd3 rd4 dy0 dy1 dy2 dy3 dy4 dy5 pa0 pa1 pa2 im0 im1 im2 pl0 pl1 pl2 pl3 pl4 pl5 pl6 pl7 pl8 er0 er1 er2 bk0 bk1 bk2 dr0 sh0 sh1 sh2 sh3 sh4 sh5 sh6 sh7 sh8 sp0 sp1 sp2 sp3 sp4 sp5 sp6 sp7 sp8 ++ wX10 G ad a0 a1 a2 a3 a4 a5 a6 a7 a8 a9 a10 a11 a12 a13 a14 a15 a16 a17 a18 a19 a20 a21 a22 a23 a24 a25 a26 a27 a28 a29 a30 a31 a32 a33 a34 a35 a36 a37 a38) 1 (ci_fr (List.Perm.refl _) (List.Perm.refl _) [AD 10 0, AD 0 0, AD 0 1, AD 1 0, AD 1 1, AD 1 2, AD 1 3, AD 1 4, AD 1 5, AD 2 0, AD 2 1, AD 3 0, AD 3 1, AD 3 2, AD 3 3, AD 4 0, AD 4 1, AD 4 2, AD 4 3, AD 4 4, AD 4 5, AD 4 6, AD 5 0, AD 5 1, AD 5 2, AD 6 0, AD 6 1, AD 6 2, AD 7 0, AD 8 0, AD 8 1, AD 8 2, AD 8 3, AD 8 4, AD 8 5, AD 8 6, AD 9 0, AD 9 1, AD 9 2, AD 9 3, AD 9 4, AD 9 5, AD 9 6] rfl rfl (c_X9_legal l G AD rd0 rd1 rd2 rd3 rd4 dy0 dy1 dy2 dy3 dy4 dy5 pa0 pa1 pa2 im0 im1 im2 pl0 pl1 pl2 pl3 pl4 pl5 pl6 pl7 pl8 er0 er1 er2 bk0 bk1 bk2 dr0 sh0 sh1 sh2 sh3 sh4 sh5 sh6 sh7 sh8 sp0 sp1 sp2 sp3 sp4 sp5 sp6 sp7 sp8 (xs (nI k + (1 : Int32)).toNatClampNeg) (xs (nI k + (2 : Int32)).toNatClampNeg) (by with_reducible assumption) (by with_reducible assumption))) gL_law_X9_legal rfl (by decide +kernel) ⟨(Nat.le_of_ble_eq_true rfl), (Nat.le_of_ble_eq_true rfl)⟩ 0 rfl rfl rfl rfl (Nat.le_of_ble_eq_true rfl) (Nat.le_of_ble_eq_true rfl) (Nat.le_of_ble_eq_true rfl) dL_law_317 ?_
  refine s_aload_n X (pc := 320) (x := (ad 0)) 2 dL_law_320 rfl ?_
  refine s_aload_n X (pc := 321) (x := b) 0 dL_law_321 rfl ?_
  refine s_iload_n X (pc := 322) (x := nI k) 3 dL_law_322 rfl ?_
  refine s_iconst X (pc := 323) (v := 1) dL_law_323 (by decide) ?_
  refine s_iadd X (pc := 324) dL_law_324 ?_
  refine s_sld X (pc := 325) hX hbl (ix5 (j := 1) rfl (by decide) hk hL) dL_law_325 ?_
  refine s_aload_n X (pc := 326) (x := b) 0 dL_law_326 rfl ?_
  refine s_iload_n X (pc := 327) (x := nI k) 3 dL_law_327 rfl ?_
  refine s_iconst X (pc := 328) (v := 2) dL_law_328 (by decide) ?_
  refine s_iadd X (pc := 329) dL_law_329 ?_
  refine s_sld X (pc := 330) hX hbl (ix5 (j := 2) rfl (by decide) hk hL) dL_law_330 ?_
  refine s_callVi0 X (pc := 331) (cells := 68) (slots := 1925) (r := rX10_legal a4 a5 a6 a7 a8 a9 (xs (nI k + (1 : Int32)).toNatClampNeg) (xs (nI k + (2 : Int32)).toNatClampNeg)) (w := wC G AD (AD 8 0) (AD 9 0) rd0 rd1 rd2 rd3 rd4 dy0 dy1 dy2 dy3 dy4 dy5 pa0 pa1 pa2 im0 im1 im2 pl0 pl1 pl2 pl3 pl4 pl5 pl6 pl7 pl8 er0 er1 er2 bk0 bk1 bk2 dr0 sh0 sh1 sh2 sh3 sh4 sh5 sh6 sh7 sh8 sp0 sp1 sp2 sp3 sp4 sp5 sp6 sp7 sp8 ++ wX10 G ad a0 a1 a2 a3 a4 a5 a6 a7 a8 a9 a10 a11 a12 a13 a14 a15 a16 a17 a18 a19 a20 a21 a22 a23 a24 a25 a26 a27 a28 a29 a30 a31 a32 a33 a34 a35 a36 a37 a38) (n := 2) (st := [.int (rX9_legal dy3 dy4 sh2 sh3 sh4 sh5 sh8 (xs (nI k + (1 : Int32)).toNatClampNeg) (xs (nI k + (2 : Int32)).toNatClampNeg))]) (As := [.int (xs (nI k + (1 : Int32)).toNatClampNeg), .int (xs (nI k + (2 : Int32)).toNatClampNeg)]) (w2 := wC G AD (AD 8 0) (AD 9 0) rd0 rd1 rd2 rd3 rd4 dy0 dy1 dy2 dy3 dy4 dy5 pa0 pa1 pa2 im0 im1 im2 pl0 pl1 pl2 pl3 pl4 pl5 pl6 pl7 pl8 er0 er1 er2 bk0 bk1 bk2 dr0 sh0 sh1 sh2 sh3 sh4 sh5 sh6 sh7 sh8 sp0 sp1 sp2 sp3 sp4 sp5 sp6 sp7 sp8 ++ wX10 G ad a0 a1 a2 a3 a4 a5 a6 a7 a8 a9 a10 a11 a12 a13 a14 a15 a16 a17 a18 a19 a20 a21 a22 a23 a24 a25 a26 a27 a28 a29 a30 a31 a32 a33 a34 a35 a36 a37 a38) 2 (ci_fr List.perm_append_comm List.perm_append_comm [ad 0, ad 2, ad 4, ad 6, ad 7, ad 8, ad 9, ad 10, ad 12, ad 19, ad 21, ad 23, ad 24, ad 25, ad 26, ad 28, ad 29, ad 30, ad 31, ad 33, ad 34, ad 36, ad 37, ad 38, ad 39] rfl rfl (c_X10_legal l G ad a0 a1 a2 a3 a4 a5 a6 a7 a8 a9 a10 a11 a12 a13 a14 a15 a16 a17 a18 a19 a20 a21 a22 a23 a24 a25 a26 a27 a28 a29 a30 a31 a32 a33 a34 a35 a36 a37 a38 (xs (nI k + (1 : Int32)).toNatClampNeg) (xs (nI k + (2 : Int32)).toNatClampNeg) (by with_reducible assumption) (by with_reducible assumption))) gL_law_X10_legal rfl (by decide +kernel) ⟨(Nat.le_of_ble_eq_true rfl), (Nat.le_of_ble_eq_true rfl)⟩ 43 rfl rfl rfl rfl (Nat.le_of_ble_eq_true rfl) (Nat.le_of_ble_eq_true rfl) (Nat.le_of_ble_eq_true rfl) dL_law_331 ?_
  refine s_icmp_eq X (pc := 334) (tgt := 944) dL_law_334 (by decide) (fun cq => ?_) (fun cq => absurd EE.1 cq)
  exact K (AD := AD) EE.2

set_option maxRecDepth 100000 in
set_option maxHeartbeats 4000000 in
theorem law_hour {p : Program} {l : Launch} {e : Env} {s : State} {m : MethodId} {below : List Frame} {meth : Method} {c : Code} {G : GT} {b L : Nat} {xs : Nat → Int32} (X : Cx p room_1 s m #[Value.ref b] meth c G (fun q : Nat => s.heap.size ≤ q) 4 cL_law wsL_law RL (some .boolean)) (hX : va_X b L xs s s.heap) (hbl : b < s.heap.size) {k : Nat} (hk : k + 5 ≤ L) (hL : L ≤ 320) {AD : Nat → Nat → Nat} {ad : Nat → Nat} {rd0 : Nat → Int32} {rd1 rd2 rd3 rd4 : Int32} {dy0 dy1 dy2 dy3 dy4 : Nat → Int32} {dy5 : Int32} {pa0 : Nat → Int32} {pa1 pa2 : Int32} {im0 im1 im2 pl0 pl1 pl2 pl3 pl4 pl5 : Nat → Int32} {pl6 pl7 pl8 : Int32} {er0 er1 : Nat → Int32} {er2 : Int32} {bk0 bk1 : Nat → Int32} {bk2 dr0 : Int32} {sh0 sh1 sh2 sh3 sh4 sh5 : Nat → Int32} {sh6 sh7 sh8 : Int32} {sp0 sp1 sp2 sp3 sp4 sp5 : Nat → Int32} {sp6 sp7 sp8 a0 : Int32} {a1 : Nat → Int32} {a2 : Int32} {a3 : Nat → Int32} {a4 : Int32} {a5 a6 a7 a8 a9 : Nat → Int32} {a10 : Int32} {a11 : Nat → Int32} {a12 a13 a14 a15 a16 a17 : Int32} {a18 : Nat → Int32} {a19 : Int32} {a20 : Nat → Int32} {a21 : Int32} {a22 a23 a24 a25 : Nat → Int32} {a26 : Int32} {a27 a28 a29 a30 : Nat → Int32} {a31 : Int32} {a32 a33 : Nat → Int32} {a34 : Int32} {a35 a36 a37 a38 : Nat → Int32} (hRel : Rel rd0 rd1 rd2 rd3 rd4 dy0 dy1 dy2 dy3 dy4 dy5 pa0 pa1 pa2 im0 im1 im2 pl0 pl1 pl2 pl3 pl4 pl5 pl6 pl7 pl8 er0 er1 er2 bk0 bk1 bk2 dr0 sh0 sh1 sh2 sh3 sh4 sh5 sh6 sh7 sh8 sp0 sp1 sp2 sp3 sp4 sp5 sp6 sp7 sp8 a0 a1 a2 a3 a4 a5 a6 a7 a8 a9 a10 a11 a12 a13 a14 a15 a16 a17 a18 a19 a20 a21 a22 a23 a24 a25 a26 a27 a28 a29 a30 a31 a32 a33 a34 a35 a36 a37 a38) (K : ∀ {AD : Nat → Nat → Nat} {rd0 : Nat → Int32} {rd1 rd2 rd3 rd4 : Int32} {dy0 dy1 dy2 dy3 dy4 : Nat → Int32} {dy5 : Int32} {pa0 : Nat → Int32} {pa1 pa2 : Int32} {im0 im1 im2 pl0 pl1 pl2 pl3 pl4 pl5 : Nat → Int32} {pl6 pl7 pl8 : Int32} {er0 er1 : Nat → Int32} {er2 : Int32} {bk0 bk1 : Nat → Int32} {bk2 dr0 : Int32} {sh0 sh1 sh2 sh3 sh4 sh5 : Nat → Int32} {sh6 sh7 sh8 : Int32} {sp0 sp1 sp2 sp3 sp4 sp5 : Nat → Int32} {sp6 sp7 sp8 a0 : Int32} {a1 : Nat → Int32} {a2 : Int32} {a3 : Nat → Int32} {a4 : Int32} {a5 a6 a7 a8 a9 : Nat → Int32} {a10 : Int32} {a11 : Nat → Int32} {a12 a13 a14 a15 a16 a17 : Int32} {a18 : Nat → Int32} {a19 : Int32} {a20 : Nat → Int32} {a21 : Int32} {a22 a23 a24 a25 : Nat → Int32} {a26 : Int32} {a27 a28 a29 a30 : Nat → Int32} {a31 : Int32} {a32 a33 : Nat → Int32} {a34 : Int32} {a35 a36 a37 a38 : Nat → Int32}, Rel rd0 rd1 rd2 rd3 rd4 dy0 dy1 dy2 dy3 dy4 dy5 pa0 pa1 pa2 im0 im1 im2 pl0 pl1 pl2 pl3 pl4 pl5 pl6 pl7 pl8 er0 er1 er2 bk0 bk1 bk2 dr0 sh0 sh1 sh2 sh3 sh4 sh5 sh6 sh7 sh8 sp0 sp1 sp2 sp3 sp4 sp5 sp6 sp7 sp8 a0 a1 a2 a3 a4 a5 a6 a7 a8 a9 a10 a11 a12 a13 a14 a15 a16 a17 a18 a19 a20 a21 a22 a23 a24 a25 a26 a27 a28 a29 a30 a31 a32 a33 a34 a35 a36 a37 a38 → Sm p l e room_1 s m #[Value.ref b] below meth c G (fun q : Nat => s.heap.size ≤ q) 4 68 1925 (lw_Z below #[Value.ref b] s) 944 [(0, .ref b), (1, .ref (AD 10 0)), (2, .ref (ad 0)), (3, .int (nI k))] [] (wC G AD (AD 8 0) (AD 9 0) rd0 rd1 rd2 rd3 rd4 dy0 dy1 dy2 dy3 dy4 dy5 pa0 pa1 pa2 im0 im1 im2 pl0 pl1 pl2 pl3 pl4 pl5 pl6 pl7 pl8 er0 er1 er2 bk0 bk1 bk2 dr0 sh0 sh1 sh2 sh3 sh4 sh5 sh6 sh7 sh8 sp0 sp1 sp2 sp3 sp4 sp5 sp6 sp7 sp8 ++ wX10 G ad a0 a1 a2 a3 a4 a5 a6 a7 a8 a9 a10 a11 a12 a13 a14 a15 a16 a17 a18 a19 a20 a21 a22 a23 a24 a25 a26 a27 a28 a29 a30 a31 a32 a33 a34 a35 a36 a37 a38)) : Sm p l e room_1 s m #[Value.ref b] below meth c G (fun q : Nat => s.heap.size ≤ q) 4 68 1925 (lw_Z below #[Value.ref b] s) 339 [(0, .ref b), (1, .ref (AD 10 0)), (2, .ref (ad 0)), (3, .int (nI k))] [] (wC G AD (AD 8 0) (AD 9 0) rd0 rd1 rd2 rd3 rd4 dy0 dy1 dy2 dy3 dy4 dy5 pa0 pa1 pa2 im0 im1 im2 pl0 pl1 pl2 pl3 pl4 pl5 pl6 pl7 pl8 er0 er1 er2 bk0 bk1 bk2 dr0 sh0 sh1 sh2 sh3 sh4 sh5 sh6 sh7 sh8 sp0 sp1 sp2 sp3 sp4 sp5 sp6 sp7 sp8 ++ wX10 G ad a0 a1 a2 a3 a4 a5 a6 a7 a8 a9 a10 a11 a12 a13 a14 a15 a16 a17 a18 a19 a20 a21 a22 a23 a24 a25 a26 a27 a28 a29 a30 a31 a32 a33 a34 a35 a36 a37 a38) := by
  obtain ⟨hT, hF, hB, hD, hI, hP, hM, hE, hK, hS, s0⟩ := hRel
  have k_t0 : 0 ≤ a0 := hB.2.1.1
  have k_t12 : a0 ≤ 12 := hB.2.1.2
  have k_h0 : 0 ≤ a2 := hB.2.2.1.1
  have k_h4 : a2 ≤ 4 := hB.2.2.1.2
  have k_ca : 0 ≤ a4 := hB.2.2.2.1.1
  have k_cb : a4 ≤ 5 := hB.2.2.2.1.2
  have k_th : 0 < a2 → 0 < a0 := hB.2.2.2.2.1
  have k_tc : 0 < a4 → 0 < a0 := hB.2.2.2.2.2.1
  have c_t12 : sh6 ≤ 12 := by rw [hB.1.1]; exact k_t12
  have c_h0 : 0 ≤ sh7 := by rw [hB.1.2.1]; exact k_h0
  have c_h4 : sh7 ≤ 4 := by rw [hB.1.2.1]; exact k_h4
  have c_ca : 0 ≤ sh8 := by rw [hB.1.2.2]; exact k_ca
  have c_cb : sh8 ≤ 5 := by rw [hB.1.2.2]; exact k_cb
  have hc5 := clampLe (n := 5) (b := 5) rfl k_ca k_cb
  have k_n0 : 0 ≤ a9 22 := hI.1.1
  have k_n9 : a9 22 ≤ 9060 := Int32.le_iff_toInt_le.mpr hI.1.2
  have k_NI : NI 9060 a9 := DI_NI hc5 hI
  have k_u0 : 0 ≤ a26 := hP.2.1
  have k_u20 : a26 ≤ 20 := hP.2.2.1
  have c_u0 : 0 ≤ pa1 := hP.2.2.2.1
  have c_u20 : pa1 < 20 := hP.2.2.2.2.1
  have k_x0 : 0 ≤ a12 := hT.2.1
  have k_x240 : a12 ≤ 240 := hT.2.2.1
  have c_x0 : 0 ≤ rd2 := by rw [hT.1]; exact k_x0
  have c_x240 : rd2 ≤ 240 := by rw [hT.1]; exact k_x240
  have k_e0 : 0 ≤ a31 := hE.2.1
  have k_e6 : a31 ≤ 6 := hE.2.2.1
  have c_e0 : 0 ≤ er2 := by rw [hE.1]; exact k_e0
  have c_e6 : er2 ≤ 6 := by rw [hE.1]; exact k_e6
  have k_b0 : 0 ≤ a34 := hK.2.1
  have k_b15 : a34 ≤ 15 := hK.2.2.1
  have c_b0 : 0 ≤ bk2 := by rw [hK.1]; exact k_b0
  have c_b15 : bk2 ≤ 15 := by rw [hK.1]; exact k_b15
  have k_bk : ∀ j : Nat, j < a34.toNatClampNeg → vp_in (a35 j) 5 := fun j hj => by
    have z := hK.2.2.2 j hj
    rw [cl_nI _ z.2.2.1]
    exact vp_in_nI (by omega) (by decide)
  have c_bk : ∀ j : Nat, j < bk2.toNatClampNeg → vp_in (bk0 j) 5 := fun j hj => by
    rw [hK.1] at hj
    rw [(hK.2.2.2 j hj).1]
    exact k_bk j hj
  have c_hL : ∀ j : Nat, j < 5 → ¬ rX0_hasCase sh8 (nI j) = 0 → 1 ≤ sh3 j ∧ sh3 j ≤ 4 := fun j h5 hj => hL_of hB h5 hj
  have EE : rX9_hour dy0 dy1 dy2 dy3 dy4 dy5 sh0 sh2 sh3 sh4 sh6 sh7 sh8 (xs (nI k + (1 : Int32)).toNatClampNeg) = rX10_hour a0 a1 a2 a5 a6 a7 a9 (xs (nI k + (1 : Int32)).toNatClampNeg) ∧ Rel rd0 rd1 rd2 rd3 rd4 dy0 (sX9_hour_o1_1 dy0 dy1 dy2 dy3 dy4 dy5 sh0 sh2 sh3 sh4 sh6 sh7 sh8 (xs (nI k + (1 : Int32)).toNatClampNeg)) (sX9_hour_o1_2 dy0 dy1 dy2 dy3 dy4 dy5 sh0 sh2 sh3 sh4 sh6 sh7 sh8 (xs (nI k + (1 : Int32)).toNatClampNeg)) (sX9_hour_o1_3 dy0 dy1 dy2 dy3 dy4 dy5 sh0 sh2 sh3 sh4 sh6 sh7 sh8 (xs (nI k + (1 : Int32)).toNatClampNeg)) (sX9_hour_o1_4 dy0 dy1 dy2 dy3 dy4 dy5 sh0 sh2 sh3 sh4 sh6 sh7 sh8 (xs (nI k + (1 : Int32)).toNatClampNeg)) (sX9_hour_o1_5 dy0 dy1 dy2 dy3 dy4 dy5 sh0 sh2 sh3 sh4 sh6 sh7 sh8 (xs (nI k + (1 : Int32)).toNatClampNeg)) (sX9_hour_o2_0 dy0 dy1 dy2 dy3 dy4 dy5 pa0 pa1 sh6 (xs (nI k + (1 : Int32)).toNatClampNeg)) (sX9_hour_o2_1 dy5 pa1 sh6 (xs (nI k + (1 : Int32)).toNatClampNeg)) (sX9_hour_o2_2 dy5 pa2 sh6 (xs (nI k + (1 : Int32)).toNatClampNeg)) im0 im1 im2 pl0 pl1 pl2 pl3 pl4 pl5 pl6 pl7 pl8 er0 er1 er2 bk0 bk1 bk2 dr0 sh0 sh1 sh2 sh3 sh4 sh5 sh6 sh7 sh8 sp0 sp1 sp2 sp3 sp4 sp5 sp6 sp7 sp8 a0 a1 a2 a3 a4 a5 a6 a7 a8 (sX10_hour_9 a0 a1 a2 a5 a6 a7 a9 (xs (nI k + (1 : Int32)).toNatClampNeg)) a10 a11 a12 a13 a14 a15 a16 a17 a18 a19 a20 a21 a22 a23 a24 a25 (sX10_hour_26 a0 a9 a26 (xs (nI k + (1 : Int32)).toNatClampNeg)) (sX10_hour_27 a0 a9 a26 a27 (xs (nI k + (1 : Int32)).toNatClampNeg)) a28 a29 a30 a31 a32 a33 a34 a35 a36 a37 a38 := by
    have z := e_hour (p0 := (xs (nI k + (1 : Int32)).toNatClampNeg)) hB hD hI hP
    exact ⟨z.1, hT, hF, hB, z.2.1, z.2.2.1, z.2.2.2, hM, hE, hK, hS, s0⟩
  refine s_aload_n X (pc := 339) (x := (AD 10 0)) 1 dL_law_339 rfl ?_
  refine s_aload_n X (pc := 340) (x := b) 0 dL_law_340 rfl ?_
  refine s_iload_n X (pc := 341) (x := nI k) 3 dL_law_341 rfl ?_
  refine s_iconst X (pc := 342) (v := 1) dL_law_342 (by decide) ?_
  refine s_iadd X (pc := 343) dL_law_343 ?_
  refine s_sld X (pc := 344) hX hbl (ix5 (j := 1) rfl (by decide) hk hL) dL_law_344 ?_
  refine s_callVi0 X (pc := 345) (cells := 68) (slots := 1925) (r := rX9_hour dy0 dy1 dy2 dy3 dy4 dy5 sh0 sh2 sh3 sh4 sh6 sh7 sh8 (xs (nI k + (1 : Int32)).toNatClampNeg)) (w := wC G AD (AD 8 0) (AD 9 0) rd0 rd1 rd2 rd3 rd4 dy0 dy1 dy2 dy3 dy4 dy5 pa0 pa1 pa2 im0 im1 im2 pl0 pl1 pl2 pl3 pl4 pl5 pl6 pl7 pl8 er0 er1 er2 bk0 bk1 bk2 dr0 sh0 sh1 sh2 sh3 sh4 sh5 sh6 sh7 sh8 sp0 sp1 sp2 sp3 sp4 sp5 sp6 sp7 sp8 ++ wX10 G ad a0 a1 a2 a3 a4 a5 a6 a7 a8 a9 a10 a11 a12 a13 a14 a15 a16 a17 a18 a19 a20 a21 a22 a23 a24 a25 a26 a27 a28 a29 a30 a31 a32 a33 a34 a35 a36 a37 a38) (n := 1) (st := []) (As := [.int (xs (nI k + (1 : Int32)).toNatClampNeg)]) (w2 := wC G AD (AD 8 0) (AD 9 0) rd0 rd1 rd2 rd3 rd4 dy0 (sX9_hour_o1_1 dy0 dy1 dy2 dy3 dy4 dy5 sh0 sh2 sh3 sh4 sh6 sh7 sh8 (xs (nI k + (1 : Int32)).toNatClampNeg)) (sX9_hour_o1_2 dy0 dy1 dy2 dy3 dy4 dy5 sh0 sh2 sh3 sh4 sh6 sh7 sh8 (xs (nI k + (1 : Int32)).toNatClampNeg)) (sX9_hour_o1_3 dy0 dy1 dy2 dy3 dy4 dy5 sh0 sh2 sh3 sh4 sh6 sh7 sh8 (xs (nI k + (1 : Int32)).toNatClampNeg)) (sX9_hour_o1_4 dy0 dy1 dy2 dy3 dy4 dy5 sh0 sh2 sh3 sh4 sh6 sh7 sh8 (xs (nI k + (1 : Int32)).toNatClampNeg)) (sX9_hour_o1_5 dy0 dy1 dy2 dy3 dy4 dy5 sh0 sh2 sh3 sh4 sh6 sh7 sh8 (xs (nI k + (1 : Int32)).toNatClampNeg)) (sX9_hour_o2_0 dy0 dy1 dy2 dy3 dy4 dy5 pa0 pa1 sh6 (xs (nI k + (1 : Int32)).toNatClampNeg)) (sX9_hour_o2_1 dy5 pa1 sh6 (xs (nI k + (1 : Int32)).toNatClampNeg)) (sX9_hour_o2_2 dy5 pa2 sh6 (xs (nI k + (1 : Int32)).toNatClampNeg)) im0 im1 im2 pl0 pl1 pl2 pl3 pl4 pl5 pl6 pl7 pl8 er0 er1 er2 bk0 bk1 bk2 dr0 sh0 sh1 sh2 sh3 sh4 sh5 sh6 sh7 sh8 sp0 sp1 sp2 sp3 sp4 sp5 sp6 sp7 sp8 ++ wX10 G ad a0 a1 a2 a3 a4 a5 a6 a7 a8 a9 a10 a11 a12 a13 a14 a15 a16 a17 a18 a19 a20 a21 a22 a23 a24 a25 a26 a27 a28 a29 a30 a31 a32 a33 a34 a35 a36 a37 a38) 3 (ci_fr (List.Perm.refl _) (List.Perm.refl _) [AD 10 0, AD 0 0, AD 0 1, AD 1 0, AD 1 1, AD 1 2, AD 1 3, AD 1 4, AD 1 5, AD 2 0, AD 2 1, AD 3 0, AD 3 1, AD 3 2, AD 3 3, AD 4 0, AD 4 1, AD 4 2, AD 4 3, AD 4 4, AD 4 5, AD 4 6, AD 5 0, AD 5 1, AD 5 2, AD 6 0, AD 6 1, AD 6 2, AD 7 0, AD 8 0, AD 8 1, AD 8 2, AD 8 3, AD 8 4, AD 8 5, AD 8 6, AD 9 0, AD 9 1, AD 9 2, AD 9 3, AD 9 4, AD 9 5, AD 9 6] rfl rfl (c_X9_hour l G AD rd0 rd1 rd2 rd3 rd4 dy0 dy1 dy2 dy3 dy4 dy5 pa0 pa1 pa2 im0 im1 im2 pl0 pl1 pl2 pl3 pl4 pl5 pl6 pl7 pl8 er0 er1 er2 bk0 bk1 bk2 dr0 sh0 sh1 sh2 sh3 sh4 sh5 sh6 sh7 sh8 sp0 sp1 sp2 sp3 sp4 sp5 sp6 sp7 sp8 (xs (nI k + (1 : Int32)).toNatClampNeg) (by with_reducible assumption) (by with_reducible assumption) (by with_reducible assumption) (by with_reducible assumption) (by with_reducible assumption) (by with_reducible assumption) (by with_reducible assumption))) gL_law_X9_hour rfl (by decide +kernel) ⟨(Nat.le_of_ble_eq_true rfl), (Nat.le_of_ble_eq_true rfl)⟩ 0 rfl rfl rfl rfl (Nat.le_of_ble_eq_true rfl) (Nat.le_of_ble_eq_true rfl) (Nat.le_of_ble_eq_true rfl) dL_law_345 ?_
  refine s_aload_n X (pc := 348) (x := (ad 0)) 2 dL_law_348 rfl ?_
  refine s_aload_n X (pc := 349) (x := b) 0 dL_law_349 rfl ?_
  refine s_iload_n X (pc := 350) (x := nI k) 3 dL_law_350 rfl ?_
  refine s_iconst X (pc := 351) (v := 1) dL_law_351 (by decide) ?_
  refine s_iadd X (pc := 352) dL_law_352 ?_
  refine s_sld X (pc := 353) hX hbl (ix5 (j := 1) rfl (by decide) hk hL) dL_law_353 ?_
  refine s_callVi0 X (pc := 354) (cells := 68) (slots := 1925) (r := rX10_hour a0 a1 a2 a5 a6 a7 a9 (xs (nI k + (1 : Int32)).toNatClampNeg)) (w := wC G AD (AD 8 0) (AD 9 0) rd0 rd1 rd2 rd3 rd4 dy0 (sX9_hour_o1_1 dy0 dy1 dy2 dy3 dy4 dy5 sh0 sh2 sh3 sh4 sh6 sh7 sh8 (xs (nI k + (1 : Int32)).toNatClampNeg)) (sX9_hour_o1_2 dy0 dy1 dy2 dy3 dy4 dy5 sh0 sh2 sh3 sh4 sh6 sh7 sh8 (xs (nI k + (1 : Int32)).toNatClampNeg)) (sX9_hour_o1_3 dy0 dy1 dy2 dy3 dy4 dy5 sh0 sh2 sh3 sh4 sh6 sh7 sh8 (xs (nI k + (1 : Int32)).toNatClampNeg)) (sX9_hour_o1_4 dy0 dy1 dy2 dy3 dy4 dy5 sh0 sh2 sh3 sh4 sh6 sh7 sh8 (xs (nI k + (1 : Int32)).toNatClampNeg)) (sX9_hour_o1_5 dy0 dy1 dy2 dy3 dy4 dy5 sh0 sh2 sh3 sh4 sh6 sh7 sh8 (xs (nI k + (1 : Int32)).toNatClampNeg)) (sX9_hour_o2_0 dy0 dy1 dy2 dy3 dy4 dy5 pa0 pa1 sh6 (xs (nI k + (1 : Int32)).toNatClampNeg)) (sX9_hour_o2_1 dy5 pa1 sh6 (xs (nI k + (1 : Int32)).toNatClampNeg)) (sX9_hour_o2_2 dy5 pa2 sh6 (xs (nI k + (1 : Int32)).toNatClampNeg)) im0 im1 im2 pl0 pl1 pl2 pl3 pl4 pl5 pl6 pl7 pl8 er0 er1 er2 bk0 bk1 bk2 dr0 sh0 sh1 sh2 sh3 sh4 sh5 sh6 sh7 sh8 sp0 sp1 sp2 sp3 sp4 sp5 sp6 sp7 sp8 ++ wX10 G ad a0 a1 a2 a3 a4 a5 a6 a7 a8 a9 a10 a11 a12 a13 a14 a15 a16 a17 a18 a19 a20 a21 a22 a23 a24 a25 a26 a27 a28 a29 a30 a31 a32 a33 a34 a35 a36 a37 a38) (n := 1) (st := [.int (rX9_hour dy0 dy1 dy2 dy3 dy4 dy5 sh0 sh2 sh3 sh4 sh6 sh7 sh8 (xs (nI k + (1 : Int32)).toNatClampNeg))]) (As := [.int (xs (nI k + (1 : Int32)).toNatClampNeg)]) (w2 := wC G AD (AD 8 0) (AD 9 0) rd0 rd1 rd2 rd3 rd4 dy0 (sX9_hour_o1_1 dy0 dy1 dy2 dy3 dy4 dy5 sh0 sh2 sh3 sh4 sh6 sh7 sh8 (xs (nI k + (1 : Int32)).toNatClampNeg)) (sX9_hour_o1_2 dy0 dy1 dy2 dy3 dy4 dy5 sh0 sh2 sh3 sh4 sh6 sh7 sh8 (xs (nI k + (1 : Int32)).toNatClampNeg)) (sX9_hour_o1_3 dy0 dy1 dy2 dy3 dy4 dy5 sh0 sh2 sh3 sh4 sh6 sh7 sh8 (xs (nI k + (1 : Int32)).toNatClampNeg)) (sX9_hour_o1_4 dy0 dy1 dy2 dy3 dy4 dy5 sh0 sh2 sh3 sh4 sh6 sh7 sh8 (xs (nI k + (1 : Int32)).toNatClampNeg)) (sX9_hour_o1_5 dy0 dy1 dy2 dy3 dy4 dy5 sh0 sh2 sh3 sh4 sh6 sh7 sh8 (xs (nI k + (1 : Int32)).toNatClampNeg)) (sX9_hour_o2_0 dy0 dy1 dy2 dy3 dy4 dy5 pa0 pa1 sh6 (xs (nI k + (1 : Int32)).toNatClampNeg)) (sX9_hour_o2_1 dy5 pa1 sh6 (xs (nI k + (1 : Int32)).toNatClampNeg)) (sX9_hour_o2_2 dy5 pa2 sh6 (xs (nI k + (1 : Int32)).toNatClampNeg)) im0 im1 im2 pl0 pl1 pl2 pl3 pl4 pl5 pl6 pl7 pl8 er0 er1 er2 bk0 bk1 bk2 dr0 sh0 sh1 sh2 sh3 sh4 sh5 sh6 sh7 sh8 sp0 sp1 sp2 sp3 sp4 sp5 sp6 sp7 sp8 ++ wX10 G ad a0 a1 a2 a3 a4 a5 a6 a7 a8 (sX10_hour_9 a0 a1 a2 a5 a6 a7 a9 (xs (nI k + (1 : Int32)).toNatClampNeg)) a10 a11 a12 a13 a14 a15 a16 a17 a18 a19 a20 a21 a22 a23 a24 a25 (sX10_hour_26 a0 a9 a26 (xs (nI k + (1 : Int32)).toNatClampNeg)) (sX10_hour_27 a0 a9 a26 a27 (xs (nI k + (1 : Int32)).toNatClampNeg)) a28 a29 a30 a31 a32 a33 a34 a35 a36 a37 a38) 3 (ci_fr List.perm_append_comm List.perm_append_comm [ad 0, ad 2, ad 4, ad 6, ad 7, ad 8, ad 9, ad 10, ad 12, ad 19, ad 21, ad 23, ad 24, ad 25, ad 26, ad 28, ad 29, ad 30, ad 31, ad 33, ad 34, ad 36, ad 37, ad 38, ad 39] rfl rfl (c_X10_hour l G ad a0 a1 a2 a3 a4 a5 a6 a7 a8 a9 a10 a11 a12 a13 a14 a15 a16 a17 a18 a19 a20 a21 a22 a23 a24 a25 a26 a27 a28 a29 a30 a31 a32 a33 a34 a35 a36 a37 a38 (xs (nI k + (1 : Int32)).toNatClampNeg) (by with_reducible assumption) (by with_reducible assumption) (by with_reducible assumption) (by with_reducible assumption) (by with_reducible assumption) (by with_reducible assumption) 9060 (by with_reducible assumption))) gL_law_X10_hour rfl (by decide +kernel) ⟨(Nat.le_of_ble_eq_true rfl), (Nat.le_of_ble_eq_true rfl)⟩ 43 rfl rfl rfl rfl (Nat.le_of_ble_eq_true rfl) (Nat.le_of_ble_eq_true rfl) (Nat.le_of_ble_eq_true rfl) dL_law_354 ?_
  refine s_icmp_eq X (pc := 357) (tgt := 944) dL_law_357 (by decide) (fun cq => ?_) (fun cq => absurd EE.1 cq)
  exact K (AD := AD) EE.2
