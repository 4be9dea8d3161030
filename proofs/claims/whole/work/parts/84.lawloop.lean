theorem sub5 {L k : Nat} (hL : L ≤ 320) (hk : k ≤ 320) (h : ¬ Int32.ofNat L - 5 < nI k) : k + 5 ≤ L := by
  rw [show Int32.ofNat L = nI L from rfl, Int32.lt_iff_toInt_lt, Int32.toInt_sub, nI_toInt (n := L) (by omega), nI_toInt (n := k) (by omega)] at h
  have e : (5 : Int32).toInt = 5 := rfl
  rw [e, Int.bmod_eq_of_le (by omega) (by omega)] at h
  omega
theorem sw_cases (v : Int32) : (v.toInt < 0 ∨ 29 < v.toInt) ∨ ∃ i : Nat, i < 30 ∧ v = nI i := by
  by_cases h1 : v.toInt < 0
  · exact Or.inl (Or.inl h1)
  by_cases h2 : 29 < v.toInt
  · exact Or.inl (Or.inr h2)
  have h0 : 0 ≤ v := Int32.le_iff_toInt_le.mpr (by have e : (0 : Int32).toInt = 0 := rfl; omega)
  refine Or.inr ⟨v.toNatClampNeg, ?_, clampEq h0⟩
  have e : v.toNatClampNeg = v.toInt.toNat := rfl
  omega
set_option maxRecDepth 100000 in
set_option maxHeartbeats 4000000 in
theorem law_loop {p : Program} {l : Launch} {e : Env} {s : State} {m : MethodId} {below : List Frame} {meth : Method} {c : Code} {G : GT} {b L : Nat} {xs : Nat → Int32} (X : Cx p room_1 s m #[Value.ref b] meth c G (fun q : Nat => s.heap.size ≤ q) 4 cL_law wsL_law RL (some .boolean)) (hX : va_X b L xs s s.heap) (hbl : b < s.heap.size) (hL : L ≤ 320) {ad : Nat → Nat} : ∀ (n k : Nat), L < k + n → k ≤ L → ∀ {AD : Nat → Nat → Nat} {rd0 : Nat → Int32} {rd1 rd2 rd3 rd4 : Int32} {dy0 dy1 dy2 dy3 dy4 : Nat → Int32} {dy5 : Int32} {pa0 : Nat → Int32} {pa1 pa2 : Int32} {im0 im1 im2 pl0 pl1 pl2 pl3 pl4 pl5 : Nat → Int32} {pl6 pl7 pl8 : Int32} {er0 er1 : Nat → Int32} {er2 : Int32} {bk0 bk1 : Nat → Int32} {bk2 dr0 : Int32} {sh0 sh1 sh2 sh3 sh4 sh5 : Nat → Int32} {sh6 sh7 sh8 : Int32} {sp0 sp1 sp2 sp3 sp4 sp5 : Nat → Int32} {sp6 sp7 sp8 a0 : Int32} {a1 : Nat → Int32} {a2 : Int32} {a3 : Nat → Int32} {a4 : Int32} {a5 a6 a7 a8 a9 : Nat → Int32} {a10 : Int32} {a11 : Nat → Int32} {a12 a13 a14 a15 a16 a17 : Int32} {a18 : Nat → Int32} {a19 : Int32} {a20 : Nat → Int32} {a21 : Int32} {a22 a23 a24 a25 : Nat → Int32} {a26 : Int32} {a27 a28 a29 a30 : Nat → Int32} {a31 : Int32} {a32 a33 : Nat → Int32} {a34 : Int32} {a35 a36 a37 a38 : Nat → Int32}, Rel rd0 rd1 rd2 rd3 rd4 dy0 dy1 dy2 dy3 dy4 dy5 pa0 pa1 pa2 im0 im1 im2 pl0 pl1 pl2 pl3 pl4 pl5 pl6 pl7 pl8 er0 er1 er2 bk0 bk1 bk2 dr0 sh0 sh1 sh2 sh3 sh4 sh5 sh6 sh7 sh8 sp0 sp1 sp2 sp3 sp4 sp5 sp6 sp7 sp8 a0 a1 a2 a3 a4 a5 a6 a7 a8 a9 a10 a11 a12 a13 a14 a15 a16 a17 a18 a19 a20 a21 a22 a23 a24 a25 a26 a27 a28 a29 a30 a31 a32 a33 a34 a35 a36 a37 a38 → Sm p l e room_1 s m #[Value.ref b] below meth c G (fun q : Nat => s.heap.size ≤ q) 4 68 1925 (lw_Z below #[Value.ref b] s) 18 [(3, .int (nI k)), (2, .ref (ad 0)), (1, .ref (AD 10 0)), (0, .ref b)] [] (wC G AD (AD 8 0) (AD 9 0) rd0 rd1 rd2 rd3 rd4 dy0 dy1 dy2 dy3 dy4 dy5 pa0 pa1 pa2 im0 im1 im2 pl0 pl1 pl2 pl3 pl4 pl5 pl6 pl7 pl8 er0 er1 er2 bk0 bk1 bk2 dr0 sh0 sh1 sh2 sh3 sh4 sh5 sh6 sh7 sh8 sp0 sp1 sp2 sp3 sp4 sp5 sp6 sp7 sp8 ++ wX10 G ad a0 a1 a2 a3 a4 a5 a6 a7 a8 a9 a10 a11 a12 a13 a14 a15 a16 a17 a18 a19 a20 a21 a22 a23 a24 a25 a26 a27 a28 a29 a30 a31 a32 a33 a34 a35 a36 a37 a38) := by
  intro n
  induction n with
  | zero => intro k h1 h2; omega
  | succ n ih =>
    intro k h1 h2 AD rd0 rd1 rd2 rd3 rd4 dy0 dy1 dy2 dy3 dy4 dy5 pa0 pa1 pa2 im0 im1 im2 pl0 pl1 pl2 pl3 pl4 pl5 pl6 pl7 pl8 er0 er1 er2 bk0 bk1 bk2 dr0 sh0 sh1 sh2 sh3 sh4 sh5 sh6 sh7 sh8 sp0 sp1 sp2 sp3 sp4 sp5 sp6 sp7 sp8 a0 a1 a2 a3 a4 a5 a6 a7 a8 a9 a10 a11 a12 a13 a14 a15 a16 a17 a18 a19 a20 a21 a22 a23 a24 a25 a26 a27 a28 a29 a30 a31 a32 a33 a34 a35 a36 a37 a38 hRel
    refine s_iload_n X (pc := 18) (x := nI k) 0 dL_law_18 rfl ?_
    refine s_aload_n X (pc := 19) (x := b) 3 dL_law_19 rfl ?_
    refine s_slen X (pc := 20) hX hbl dL_law_20 ?_
    refine s_iconst X (pc := 21) (v := 5) dL_law_21 (by decide) ?_
    refine s_isub X (pc := 22) dL_law_22 ?_
    refine s_icmp_gt X (pc := 23) (tgt := 950) dL_law_23 (by decide) (fun cq => ?_) (fun cq => ?_)
    · refine s_iconst X (pc := 950) (v := 1) dL_law_950 (by decide) ?_
      exact fun H locs ls hP hD hS hl => va_forget (fun q hq => hS.2.2 q hq) (W.widen (k := 600000) (n := 7302250) (by decide) (by decide) (lw_ret X.hx X.hb X.hr X.hlk dL_law_951))
    · have hk := sub5 hL (Nat.le_trans h2 hL) cq
      have KK : ∀ {AD : Nat → Nat → Nat} {rd0 : Nat → Int32} {rd1 rd2 rd3 rd4 : Int32} {dy0 dy1 dy2 dy3 dy4 : Nat → Int32} {dy5 : Int32} {pa0 : Nat → Int32} {pa1 pa2 : Int32} {im0 im1 im2 pl0 pl1 pl2 pl3 pl4 pl5 : Nat → Int32} {pl6 pl7 pl8 : Int32} {er0 er1 : Nat → Int32} {er2 : Int32} {bk0 bk1 : Nat → Int32} {bk2 dr0 : Int32} {sh0 sh1 sh2 sh3 sh4 sh5 : Nat → Int32} {sh6 sh7 sh8 : Int32} {sp0 sp1 sp2 sp3 sp4 sp5 : Nat → Int32} {sp6 sp7 sp8 a0 : Int32} {a1 : Nat → Int32} {a2 : Int32} {a3 : Nat → Int32} {a4 : Int32} {a5 a6 a7 a8 a9 : Nat → Int32} {a10 : Int32} {a11 : Nat → Int32} {a12 a13 a14 a15 a16 a17 : Int32} {a18 : Nat → Int32} {a19 : Int32} {a20 : Nat → Int32} {a21 : Int32} {a22 a23 a24 a25 : Nat → Int32} {a26 : Int32} {a27 a28 a29 a30 : Nat → Int32} {a31 : Int32} {a32 a33 : Nat → Int32} {a34 : Int32} {a35 a36 a37 a38 : Nat → Int32}, Rel rd0 rd1 rd2 rd3 rd4 dy0 dy1 dy2 dy3 dy4 dy5 pa0 pa1 pa2 im0 im1 im2 pl0 pl1 pl2 pl3 pl4 pl5 pl6 pl7 pl8 er0 er1 er2 bk0 bk1 bk2 dr0 sh0 sh1 sh2 sh3 sh4 sh5 sh6 sh7 sh8 sp0 sp1 sp2 sp3 sp4 sp5 sp6 sp7 sp8 a0 a1 a2 a3 a4 a5 a6 a7 a8 a9 a10 a11 a12 a13 a14 a15 a16 a17 a18 a19 a20 a21 a22 a23 a24 a25 a26 a27 a28 a29 a30 a31 a32 a33 a34 a35 a36 a37 a38 → Sm p l e room_1 s m #[Value.ref b] below meth c G (fun q : Nat => s.heap.size ≤ q) 4 68 1925 (lw_Z below #[Value.ref b] s) 944 [(3, .int (nI k)), (2, .ref (ad 0)), (1, .ref (AD 10 0)), (0, .ref b)] [] (wC G AD (AD 8 0) (AD 9 0) rd0 rd1 rd2 rd3 rd4 dy0 dy1 dy2 dy3 dy4 dy5 pa0 pa1 pa2 im0 im1 im2 pl0 pl1 pl2 pl3 pl4 pl5 pl6 pl7 pl8 er0 er1 er2 bk0 bk1 bk2 dr0 sh0 sh1 sh2 sh3 sh4 sh5 sh6 sh7 sh8 sp0 sp1 sp2 sp3 sp4 sp5 sp6 sp7 sp8 ++ wX10 G ad a0 a1 a2 a3 a4 a5 a6 a7 a8 a9 a10 a11 a12 a13 a14 a15 a16 a17 a18 a19 a20 a21 a22 a23 a24 a25 a26 a27 a28 a29 a30 a31 a32 a33 a34 a35 a36 a37 a38) := by
        intro AD rd0 rd1 rd2 rd3 rd4 dy0 dy1 dy2 dy3 dy4 dy5 pa0 pa1 pa2 im0 im1 im2 pl0 pl1 pl2 pl3 pl4 pl5 pl6 pl7 pl8 er0 er1 er2 bk0 bk1 bk2 dr0 sh0 sh1 sh2 sh3 sh4 sh5 sh6 sh7 sh8 sp0 sp1 sp2 sp3 sp4 sp5 sp6 sp7 sp8 a0 a1 a2 a3 a4 a5 a6 a7 a8 a9 a10 a11 a12 a13 a14 a15 a16 a17 a18 a19 a20 a21 a22 a23 a24 a25 a26 a27 a28 a29 a30 a31 a32 a33 a34 a35 a36 a37 a38 hR
        refine s_iinc X (pc := 944) (v := nI (k + 5)) (lv2 := [(3, .int (nI (k + 5))), (2, .ref (ad 0)), (1, .ref (AD 10 0)), (0, .ref b)]) 0 dL_law_944 rfl ?_ (by decide) rfl ?_
        · exact nI_add k 5
        · refine s_goto X (pc := 947) (tgt := 18) dL_law_947 (by decide) ?_
          exact ih (k + 5) (by omega) (by omega) hR
      refine s_aload_n X (pc := 26) (x := b) 3 dL_law_26 rfl ?_
      refine s_iload_n X (pc := 27) (x := nI k) 0 dL_law_27 rfl ?_
      refine s_sld X (pc := 28) hX hbl (vp_in_nI (by omega) (by omega)) dL_law_28 ?_
      refine s_bipush X (pc := 29) (v := 31) dL_law_29 (by decide) ?_
      refine s_iand X (pc := 31) dL_law_31 ?_
      rcases sw_cases (xs (nI k).toNatClampNeg &&& 31) with hv | ⟨i, hi, hv⟩
      · exact s_tableOut X (pc := 32) (tgt := 944) dL_law_32 hv (by decide) (KK hRel)
      · rw [hv]
        match i, hi with
        | 0, _ => exact s_tableIn X (pc := 32) (off := 136) (tgt := 168) dL_law_32 (by decide) (by decide) rfl (by decide) (law_feed X hX hbl hk hL hRel KK)
        | 1, _ => exact s_tableIn X (pc := 32) (off := 159) (tgt := 191) dL_law_32 (by decide) (by decide) rfl (by decide) (law_beach X hX hbl hk hL hRel KK)
        | 2, _ => exact s_tableIn X (pc := 32) (off := 172) (tgt := 204) dL_law_32 (by decide) (by decide) rfl (by decide) (law_fault X hX hbl hk hL hRel KK)
        | 3, _ => exact s_tableIn X (pc := 32) (off := 185) (tgt := 217) dL_law_32 (by decide) (by decide) rfl (by decide) (law_told X hX hbl hk hL hRel KK)
        | 4, _ => exact s_tableIn X (pc := 32) (off := 208) (tgt := 240) dL_law_32 (by decide) (by decide) rfl (by decide) (law_depth X hX hbl hk hL hRel KK)
        | 5, _ => exact s_tableIn X (pc := 32) (off := 241) (tgt := 273) dL_law_32 (by decide) (by decide) rfl (by decide) (law_hut X hX hbl hk hL hRel KK)
        | 6, _ => exact s_tableIn X (pc := 32) (off := 274) (tgt := 306) dL_law_32 (by decide) (by decide) rfl (by decide) (law_legal X hX hbl hk hL hRel KK)
        | 7, _ => exact s_tableIn X (pc := 32) (off := 307) (tgt := 339) dL_law_32 (by decide) (by decide) rfl (by decide) (law_hour X hX hbl hk hL hRel KK)
        | 8, _ => exact s_tableIn X (pc := 32) (off := 330) (tgt := 362) dL_law_32 (by decide) (by decide) rfl (by decide) (law_bring X hX hbl hk hL hRel KK)
        | 9, _ => exact s_tableIn X (pc := 32) (off := 363) (tgt := 395) dL_law_32 (by decide) (by decide) rfl (by decide) (law_drawTo X hX hbl hk hL hRel KK)
        | 10, _ => exact s_tableIn X (pc := 32) (off := 396) (tgt := 428) dL_law_32 (by decide) (by decide) rfl (by decide) (law_settle X hX hbl hk hL hRel KK)
        | 11, _ => exact s_tableIn X (pc := 32) (off := 419) (tgt := 451) dL_law_32 (by decide) (by decide) rfl (by decide) (law_drift X hX hbl hk hL hRel KK)
        | 12, _ => exact s_tableIn X (pc := 32) (off := 442) (tgt := 474) dL_law_32 (by decide) (by decide) rfl (by decide) (law_undo X hX hbl hk hL hRel KK)
        | 13, _ => exact s_tableIn X (pc := 32) (off := 455) (tgt := 487) dL_law_32 (by decide) (by decide) rfl (by decide) (law_open X hX hbl hk hL hRel KK)
        | 14, _ => exact s_tableIn X (pc := 32) (off := 478) (tgt := 510) dL_law_32 (by decide) (by decide) rfl (by decide) (law_plan X hX hbl hk hL hRel KK)
        | 15, _ => exact s_tableIn X (pc := 32) (off := 511) (tgt := 543) dL_law_32 (by decide) (by decide) rfl (by decide) (law_dry X hX hbl hk hL hRel KK)
        | 16, _ => exact s_tableIn X (pc := 32) (off := 534) (tgt := 566) dL_law_32 (by decide) (by decide) rfl (by decide) (law_stays X hX hbl hk hL hRel KK)
        | 17, _ => exact s_tableIn X (pc := 32) (off := 567) (tgt := 599) dL_law_32 (by decide) (by decide) rfl (by decide) (law_spot X hX hbl hk hL hRel KK)
        | 18, _ => exact s_tableIn X (pc := 32) (off := 590) (tgt := 622) dL_law_32 (by decide) (by decide) rfl (by decide) (law_soonest X hX hbl hk hL hRel KK)
        | 19, _ => exact s_tableIn X (pc := 32) (off := 623) (tgt := 655) dL_law_32 (by decide) (by decide) rfl (by decide) (law_offer X hX hbl hk hL hRel KK)
        | 20, _ => exact s_tableIn X (pc := 32) (off := 676) (tgt := 708) dL_law_32 (by decide) (by decide) rfl (by decide) (law_calm X hX hbl hk hL hRel KK)
        | 21, _ => exact s_tableIn X (pc := 32) (off := 709) (tgt := 741) dL_law_32 (by decide) (by decide) rfl (by decide) (law_shout X hX hbl hk hL hRel KK)
        | 22, _ => exact s_tableIn X (pc := 32) (off := 758) (tgt := 790) dL_law_32 (by decide) (by decide) rfl (by decide) (law_bears X hX hbl hk hL hRel KK)
        | 23, _ => exact s_tableIn X (pc := 32) (off := 771) (tgt := 803) dL_law_32 (by decide) (by decide) rfl (by decide) (law_listen X hX hbl hk hL hRel KK)
        | 24, _ => exact s_tableIn X (pc := 32) (off := 784) (tgt := 816) dL_law_32 (by decide) (by decide) rfl (by decide) (law_write X hX hbl hk hL hRel KK)
        | 25, _ => exact s_tableIn X (pc := 32) (off := 817) (tgt := 849) dL_law_32 (by decide) (by decide) rfl (by decide) (law_tear X hX hbl hk hL hRel KK)
        | 26, _ => exact s_tableIn X (pc := 32) (off := 830) (tgt := 862) dL_law_32 (by decide) (by decide) rfl (by decide) (law_judge X hX hbl hk hL hRel KK)
        | 27, _ => exact s_tableIn X (pc := 32) (off := 843) (tgt := 875) dL_law_32 (by decide) (by decide) rfl (by decide) (law_seed X hX hbl hk hL hRel KK)
        | 28, _ => exact s_tableIn X (pc := 32) (off := 866) (tgt := 898) dL_law_32 (by decide) (by decide) rfl (by decide) (law_keep X hX hbl hk hL hRel KK)
        | 29, _ => exact s_tableIn X (pc := 32) (off := 889) (tgt := 921) dL_law_32 (by decide) (by decide) rfl (by decide) (law_goBack X hX hbl hk hL hRel KK)
        | j + 30, h => exact absurd h (by omega)