/-- what a row that tells how all is must keep: hours, and cases in huts are cases -/
def NI (b : Int) (f : Nat → Int32) : Prop := 0 ≤ f 22 ∧ (f 22).toInt ≤ b ∧ ∀ h : Nat, h < 4 → f (4 + h) < 5
theorem NI_upd {b : Int} {f : Nat → Int32} {i : Nat} {v : Int32} (hf : NI b f) (hi : i ≠ 22) (hv : ∀ h : Nat, h < 4 → i = 4 + h → v < 5) : NI b (upd f i v) := by
  have h22 : upd f i v 22 = f 22 := by unfold upd; exact if_neg (fun e => hi e.symm)
  refine ⟨by rw [h22]; exact hf.1, by rw [h22]; exact hf.2.1, fun h hh => ?_⟩
  unfold upd
  split
  · rename_i q; exact hv h hh q.symm
  · exact hf.2.2 h hh
theorem ixA (c : Nat) {x : Int32} (h0 : 0 ≤ x) (hx : c + x.toNatClampNeg < 2147483648) : (nI c + x).toNatClampNeg = c + x.toNatClampNeg := by
  have e := clampEq h0
  conv => lhs; rw [e]
  rw [nI_add, nI_clamp hx]
theorem ixK (c : Nat) (k : Nat) (hx : c + k < 2147483648) : (nI c + nI k).toNatClampNeg = c + k := by rw [nI_add, nI_clamp hx]
theorem cl_lt {x b : Int32} {n : Nat} (hb : b.toInt = (n : Int)) (h0 : 0 ≤ x) (h : x < b) : x.toNatClampNeg < n := by
  have h1 := Int32.lt_iff_toInt_lt.mp h
  rw [hb, clampInt h0] at h1
  omega
theorem NI_tell {b : Int} {a0 : Int32} {a1 a5 a6 a7 f : Nat → Int32} {p0 p1 : Int32} (hf : NI b f) (x0 : 0 ≤ p0) (x1 : p0 < 4) (y0 : 0 ≤ p1) (y1 : p1 < 5) : NI b (sX10_tell_9 a0 a1 a5 a6 a7 f p0 p1) := by
  have l0 := cl_lt (n := 4) (b := 4) rfl x0 x1
  have l1 := cl_lt (n := 5) (b := 5) rfl y0 y1
  have i4 : ((4 : Int32) + p0).toNatClampNeg = 4 + p0.toNatClampNeg := ixA 4 x0 (by omega)
  have i12 : ((12 : Int32) + p1).toNatClampNeg = 12 + p1.toNatClampNeg := ixA 12 y0 (by omega)
  have i17 : ((17 : Int32) + p1).toNatClampNeg = 17 + p1.toNatClampNeg := ixA 17 y0 (by omega)
  unfold sX10_tell_9
  simp only [i4, i12, i17]
  repeat' split
  all_goals repeat (first | with_reducible exact hf | (refine NI_upd ?_ (by omega) (fun h hh e => by first | omega | decide)))

theorem iX10_pass_X10 : ∀ z ∈ wsX100, z ∈ wsX10_pass := fun z h => List.mem_cons_of_mem _ (List.mem_append_right _ h)
theorem kX10_pass_87 : Cond.fieldLink RX10 87 "BathingCourtModel" (TX10 2).2.1 (TX10 2).2.2.1 ∈ wsX10_pass := List.mem_of_getElem? (i := 1) rfl
theorem kX10_pass_28 : Cond.fieldLink RX10 28 "BathingCourtModel" (TX10 9).2.1 (TX10 9).2.2.1 ∈ wsX10_pass := List.mem_of_getElem? (i := 2) rfl
def aX10_pass_2 (a0 : Int32) (a1 a5 a6 a7 a9 : Nat → Int32) : Nat → (Nat → Int32)
  | 0 => a9
  | k2 + 1 => if ((aX10_pass_2 a0 a1 a5 a6 a7 a9 k2) ((4 : Int32) + (nI k2)).toNatClampNeg) < 0 then (upd (aX10_pass_2 a0 a1 a5 a6 a7 a9 k2) ((8 : Int32) + (nI k2)).toNatClampNeg (0 : Int32)) else (upd (sX10_tell_9 a0 a1 a5 a6 a7 (aX10_pass_2 a0 a1 a5 a6 a7 a9 k2) (nI k2) ((aX10_pass_2 a0 a1 a5 a6 a7 a9 k2) ((4 : Int32) + (nI k2)).toNatClampNeg)) ((8 : Int32) + (nI k2)).toNatClampNeg (0 : Int32))
def sX10_pass_9 (a0 : Int32) (a1 : Nat → Int32) (a2 : Int32) (a5 a6 a7 a9 : Nat → Int32) : Nat → Int32 := upd (aX10_pass_2 a0 a1 a5 a6 a7 a9 a2.toNatClampNeg) 22 (((aX10_pass_2 a0 a1 a5 a6 a7 a9 a2.toNatClampNeg) 22) + (1 : Int32))
theorem NI_pass0 {b : Int} {a0 : Int32} {a1 a5 a6 a7 f : Nat → Int32} (hf : NI b f) : ∀ k : Nat, k ≤ 4 → NI b (aX10_pass_2 a0 a1 a5 a6 a7 f k) := by
  intro k
  induction k with
  | zero => intro _; exact hf
  | succ k ih =>
    intro hk
    have ih := ih (by omega)
    have i4 : ((4 : Int32) + nI k).toNatClampNeg = 4 + k := ixK 4 k (by omega)
    have i8 : ((8 : Int32) + nI k).toNatClampNeg = 8 + k := ixK 8 k (by omega)
    rw [aX10_pass_2, i4, i8]
    split
    · exact NI_upd ih (by omega) (fun h hh e => by omega)
    · rename_i q
      have h4 : nI k < 4 := nI_lt (b := 4) (by omega) (by decide)
      exact NI_upd (NI_tell ih (nI_pos' (by omega)) h4 (Int32.not_lt.mp q) (ih.2.2 k (by omega))) (by omega) (fun h hh e => by omega)

set_option maxRecDepth 100000 in
set_option maxHeartbeats 4000000 in
theorem c_X10_pass (l : Launch) (G : GT) (ad : Nat → Nat) (a0 : Int32) (a1 : Nat → Int32) (a2 : Int32) (a3 : Nat → Int32) (a4 : Int32) (a5 a6 a7 a8 a9 : Nat → Int32) (a10 : Int32) (a11 : Nat → Int32) (a12 a13 a14 a15 a16 a17 : Int32) (a18 : Nat → Int32) (a19 : Int32) (a20 : Nat → Int32) (a21 : Int32) (a22 a23 a24 a25 : Nat → Int32) (a26 : Int32) (a27 a28 a29 a30 : Nat → Int32) (a31 : Int32) (a32 a33 : Nat → Int32) (a34 : Int32) (a35 a36 a37 a38 : Nat → Int32) (h0 : 0 ≤ a2) (h4 : a2 ≤ 4) (tp : 0 < a0) (t12 : a0 ≤ 12) (b : Int) (hN : NI b a9) : Cv l G yX10_pass wsX10_pass (rmL 2) [.ref (ad 0)] (wX10 G ad a0 a1 a2 a3 a4 a5 a6 a7 a8 a9 a10 a11 a12 a13 a14 a15 a16 a17 a18 a19 a20 a21 a22 a23 a24 a25 a26 a27 a28 a29 a30 a31 a32 a33 a34 a35 a36 a37 a38) (wX10 G ad a0 a1 a2 a3 a4 a5 a6 a7 a8 (sX10_pass_9 a0 a1 a2 a5 a6 a7 a9) a10 a11 a12 a13 a14 a15 a16 a17 a18 a19 a20 a21 a22 a23 a24 a25 a26 a27 a28 a29 a30 a31 a32 a33 a34 a35 a36 a37 a38) := by
  refine cv_start (by decide) rfl rfl (Nat.le_of_ble_eq_true rfl) ?_
  intro p e s m args below meth c A X
  have e2 := clampInt h0
  have hN2 := clampLe (n := 4) (b := 4) rfl h0 h4
  refine s_perm (lv2 := [(0, .ref (ad 0))]) [0] rfl ?_
  refine s_iconst X (pc := 0) (v := 0) dX10_pass_0 (by decide) ?_
  refine s_istore_n X (pc := 1) (i := 1) (lv2 := [(1, .int (0 : Int32)), (0, .ref (ad 0))]) dX10_pass_1 rfl (by decide) rfl ?_
  refine s_perm (lv2 := [(0, .ref (ad 0)), (1, .int (0 : Int32))]) [1, 0] rfl ?_
  have L2 : ∀ (n2 k2 : Nat), k2 + n2 = a2.toNatClampNeg → Sm p l e (rmL 2) s m args below meth c G A 2 0 0 (Qcv below G A args s (wX10 G ad a0 a1 a2 a3 a4 a5 a6 a7 a8 (sX10_pass_9 a0 a1 a2 a5 a6 a7 a9) a10 a11 a12 a13 a14 a15 a16 a17 a18 a19 a20 a21 a22 a23 a24 a25 a26 a27 a28 a29 a30 a31 a32 a33 a34 a35 a36 a37 a38)) 2 [(0, .ref (ad 0)), (1, .int (nI k2))] [] (wX10 G ad a0 a1 a2 a3 a4 a5 a6 a7 a8 (aX10_pass_2 a0 a1 a5 a6 a7 a9 k2) a10 a11 a12 a13 a14 a15 a16 a17 a18 a19 a20 a21 a22 a23 a24 a25 a26 a27 a28 a29 a30 a31 a32 a33 a34 a35 a36 a37 a38) := by
    intro n2
    induction n2 with
    | zero =>
      intro k2 hk2
      have hK2 : k2 = a2.toNatClampNeg := by omega
      rw [hK2]
      have tk2 : (nI a2.toNatClampNeg).toInt = ((a2.toNatClampNeg : Nat) : Int) := nI_toInt (by omega)
      have eN2 : (a2).toInt = ((a2.toNatClampNeg : Nat) : Int) := e2
      refine s_iload_n X (pc := 2) (x := nI a2.toNatClampNeg) 1 dX10_pass_2 rfl ?_
      refine s_aload_n X (pc := 3) (x := (ad 0)) 0 dX10_pass_3 rfl ?_
      refine s_get X (pc := 4) (v := .int a2) iX10_pass_X10 0 rfl rfl 2 (by decide) kX10_pass_87 rfl rfl dX10_pass_4 ?_
      refine s_icmp_ge X (pc := 7) (tgt := 50) dX10_pass_7 (by decide) (fun c7 => ?_) (fun c7 => ?_)
      ·
        refine s_aload_n X (pc := 50) (x := (ad 0)) 0 dX10_pass_50 rfl ?_
        refine s_get X (pc := 51) (v := .ref (ad 10)) iX10_pass_X10 0 rfl rfl 9 (by decide) kX10_pass_28 rfl rfl dX10_pass_51 ?_
        refine s_bipush X (pc := 54) (v := 22) dX10_pass_54 (by decide) ?_
        refine s_dup2 X (pc := 56) dX10_pass_56 rfl rfl ?_
        refine s_iald X (pc := 57) (n := 23) (f := (aX10_pass_2 a0 a1 a5 a6 a7 a9 a2.toNatClampNeg)) 7 rfl (vp_in_iff.mpr (by decide)) dX10_pass_57 ?_
        refine s_topeq (y := (aX10_pass_2 a0 a1 a5 a6 a7 a9 a2.toNatClampNeg) 22) rfl ?_
        refine s_iconst X (pc := 58) (v := 1) dX10_pass_58 (by decide) ?_
        refine s_iadd X (pc := 59) dX10_pass_59 ?_
        refine s_iast X (pc := 60) (n := 23) (f := (aX10_pass_2 a0 a1 a5 a6 a7 a9 a2.toNatClampNeg)) (w2 := wX10 G ad a0 a1 a2 a3 a4 a5 a6 a7 a8 (upd (aX10_pass_2 a0 a1 a5 a6 a7 a9 a2.toNatClampNeg) 22 (((aX10_pass_2 a0 a1 a5 a6 a7 a9 a2.toNatClampNeg) 22) + (1 : Int32))) a10 a11 a12 a13 a14 a15 a16 a17 a18 a19 a20 a21 a22 a23 a24 a25 a26 a27 a28 a29 a30 a31 a32 a33 a34 a35 a36 a37 a38) 7 rfl (vp_in_iff.mpr (by decide)) rfl dX10_pass_60 ?_
        exact s_vret X (pc := 61) dX10_pass_61 (by rw [show sX10_pass_9 a0 a1 a2 a5 a6 a7 a9 = upd (aX10_pass_2 a0 a1 a5 a6 a7 a9 a2.toNatClampNeg) 22 (((aX10_pass_2 a0 a1 a5 a6 a7 a9 a2.toNatClampNeg) 22) + (1 : Int32)) from rfl])
      ·
        exact absurd ((t_le eN2 tk2).mpr (by omega)) c7
    | succ n2 ih2 =>
      intro k2 hk2
      have hlt2 : k2 < a2.toNatClampNeg := by omega
      have tk2 : (nI k2).toInt = ((k2 : Nat) : Int) := nI_toInt (by omega)
      have eN2 : (a2).toInt = ((a2.toNatClampNeg : Nat) : Int) := e2
      have kb0 : (0 : Int32) ≤ nI k2 := (t_le (x := 0) rfl tk2).mpr (by omega)
      have kb1 : nI k2 < (4 : Int32) := (t_lt (y := 4) tk2 rfl).mpr (by omega)
      refine s_iload_n X (pc := 2) (x := nI k2) 1 dX10_pass_2 rfl ?_
      refine s_aload_n X (pc := 3) (x := (ad 0)) 0 dX10_pass_3 rfl ?_
      refine s_get X (pc := 4) (v := .int a2) iX10_pass_X10 0 rfl rfl 2 (by decide) kX10_pass_87 rfl rfl dX10_pass_4 ?_
      refine s_icmp_ge X (pc := 7) (tgt := 50) dX10_pass_7 (by decide) (fun c7 => ?_) (fun c7 => ?_)
      ·
        exact absurd ((t_le eN2 tk2).mp c7) (by omega)
      ·
        refine s_aload_n X (pc := 10) (x := (ad 0)) 0 dX10_pass_10 rfl ?_
        refine s_get X (pc := 11) (v := .ref (ad 10)) iX10_pass_X10 0 rfl rfl 9 (by decide) kX10_pass_28 rfl rfl dX10_pass_11 ?_
        refine s_iconst X (pc := 14) (v := 4) dX10_pass_14 (by decide) ?_
        refine s_iload_n X (pc := 15) (x := nI k2) 1 dX10_pass_15 rfl ?_
        refine s_iadd X (pc := 16) dX10_pass_16 ?_
        refine s_iald X (pc := 17) (n := 23) (f := (aX10_pass_2 a0 a1 a5 a6 a7 a9 k2)) 7 rfl (by first | with_reducible assumption | exact vin (b := 23) rfl (by grind) (by grind)) dX10_pass_17 ?_
        refine s_if_lt X (pc := 18) (tgt := 34) dX10_pass_18 (by decide) (fun c18 => ?_) (fun c18 => ?_)
        ·
          refine s_aload_n X (pc := 34) (x := (ad 0)) 0 dX10_pass_34 rfl ?_
          refine s_get X (pc := 35) (v := .ref (ad 10)) iX10_pass_X10 0 rfl rfl 9 (by decide) kX10_pass_28 rfl rfl dX10_pass_35 ?_
          refine s_bipush X (pc := 38) (v := 8) dX10_pass_38 (by decide) ?_
          refine s_iload_n X (pc := 40) (x := nI k2) 1 dX10_pass_40 rfl ?_
          refine s_iadd X (pc := 41) dX10_pass_41 ?_
          refine s_iconst X (pc := 42) (v := 0) dX10_pass_42 (by decide) ?_
          refine s_iast X (pc := 43) (n := 23) (f := (aX10_pass_2 a0 a1 a5 a6 a7 a9 k2)) (w2 := wX10 G ad a0 a1 a2 a3 a4 a5 a6 a7 a8 (upd (aX10_pass_2 a0 a1 a5 a6 a7 a9 k2) ((8 : Int32) + (nI k2)).toNatClampNeg (0 : Int32)) a10 a11 a12 a13 a14 a15 a16 a17 a18 a19 a20 a21 a22 a23 a24 a25 a26 a27 a28 a29 a30 a31 a32 a33 a34 a35 a36 a37 a38) 7 rfl (by first | with_reducible assumption | exact vin (b := 23) rfl (by grind) (by grind)) rfl dX10_pass_43 ?_
          refine s_iinc X (pc := 44) (v := nI (k2 + 1)) (lv2 := [(1, .int (nI (k2 + 1))), (0, .ref (ad 0))]) 1 dX10_pass_44 rfl (nI_1 _) (by decide) rfl ?_
          refine s_goto X (pc := 47) (tgt := 2) dX10_pass_47 (by decide) ?_
          refine s_perm (lv2 := [(0, .ref (ad 0)), (1, .int (nI (k2 + 1)))]) [1, 0] rfl ?_
          have hb2 : (aX10_pass_2 a0 a1 a5 a6 a7 a9 (k2 + 1)) = upd (aX10_pass_2 a0 a1 a5 a6 a7 a9 k2) ((8 : Int32) + (nI k2)).toNatClampNeg (0 : Int32) := by rw [aX10_pass_2]; exact (if_pos c18)
          refine s_cast (lv2 := [(0, .ref (ad 0)), (1, .int (nI (k2 + 1)))]) (w2 := wX10 G ad a0 a1 a2 a3 a4 a5 a6 a7 a8 (aX10_pass_2 a0 a1 a5 a6 a7 a9 (k2 + 1)) a10 a11 a12 a13 a14 a15 a16 a17 a18 a19 a20 a21 a22 a23 a24 a25 a26 a27 a28 a29 a30 a31 a32 a33 a34 a35 a36 a37 a38) (by first | (rw [hb2]; done) | rfl) (by first | (rw [hb2]; done) | rfl) ?_
          exact ih2 (k2 + 1) (by omega)
        ·
          refine s_aload_n X (pc := 21) (x := (ad 0)) 0 dX10_pass_21 rfl ?_
          refine s_iload_n X (pc := 22) (x := nI k2) 1 dX10_pass_22 rfl ?_
          refine s_aload_n X (pc := 23) (x := (ad 0)) 0 dX10_pass_23 rfl ?_
          refine s_get X (pc := 24) (v := .ref (ad 10)) iX10_pass_X10 0 rfl rfl 9 (by decide) kX10_pass_28 rfl rfl dX10_pass_24 ?_
          refine s_iconst X (pc := 27) (v := 4) dX10_pass_27 (by decide) ?_
          refine s_iload_n X (pc := 28) (x := nI k2) 1 dX10_pass_28 rfl ?_
          refine s_iadd X (pc := 29) dX10_pass_29 ?_
          refine s_iald X (pc := 30) (n := 23) (f := (aX10_pass_2 a0 a1 a5 a6 a7 a9 k2)) 7 rfl (by first | with_reducible assumption | exact vin (b := 23) rfl (by grind) (by grind)) dX10_pass_30 ?_
          refine s_callVv0 X (pc := 31) (w := wX10 G ad a0 a1 a2 a3 a4 a5 a6 a7 a8 (aX10_pass_2 a0 a1 a5 a6 a7 a9 k2) a10 a11 a12 a13 a14 a15 a16 a17 a18 a19 a20 a21 a22 a23 a24 a25 a26 a27 a28 a29 a30 a31 a32 a33 a34 a35 a36 a37 a38) (n := 2) (st := []) (As := [.int (nI k2), .int ((aX10_pass_2 a0 a1 a5 a6 a7 a9 k2) ((4 : Int32) + (nI k2)).toNatClampNeg)]) (w2 := wX10 G ad a0 a1 a2 a3 a4 a5 a6 a7 a8 (sX10_tell_9 a0 a1 a5 a6 a7 (aX10_pass_2 a0 a1 a5 a6 a7 a9 k2) (nI k2) ((aX10_pass_2 a0 a1 a5 a6 a7 a9 k2) ((4 : Int32) + (nI k2)).toNatClampNeg)) a10 a11 a12 a13 a14 a15 a16 a17 a18 a19 a20 a21 a22 a23 a24 a25 a26 a27 a28 a29 a30 a31 a32 a33 a34 a35 a36 a37 a38) 1 (c_X10_tell l G ad a0 a1 a2 a3 a4 a5 a6 a7 a8 (aX10_pass_2 a0 a1 a5 a6 a7 a9 k2) a10 a11 a12 a13 a14 a15 a16 a17 a18 a19 a20 a21 a22 a23 a24 a25 a26 a27 a28 a29 a30 a31 a32 a33 a34 a35 a36 a37 a38 (nI k2) ((aX10_pass_2 a0 a1 a5 a6 a7 a9 k2) ((4 : Int32) + (nI k2)).toNatClampNeg) tp t12 (NI_pass0 hN k2 (by omega)).1 kb0 kb1 (Int32.not_lt.mp c18) (by rw [show ((4 : Int32) + nI k2).toNatClampNeg = 4 + k2 from ixK 4 k2 (by omega)]; exact (NI_pass0 hN k2 (by omega)).2.2 k2 (by omega))) gX10_pass_X10_tell rfl (by decide +kernel) ⟨Nat.le_of_ble_eq_true rfl, Nat.le_of_ble_eq_true rfl⟩ 0 rfl rfl rfl rfl (Nat.le_of_ble_eq_true rfl) (Nat.zero_le _) (Nat.zero_le _) dX10_pass_31 ?_
          refine s_aload_n X (pc := 34) (x := (ad 0)) 0 dX10_pass_34 rfl ?_
          refine s_get X (pc := 35) (v := .ref (ad 10)) iX10_pass_X10 0 rfl rfl 9 (by decide) kX10_pass_28 rfl rfl dX10_pass_35 ?_
          refine s_bipush X (pc := 38) (v := 8) dX10_pass_38 (by decide) ?_
          refine s_iload_n X (pc := 40) (x := nI k2) 1 dX10_pass_40 rfl ?_
          refine s_iadd X (pc := 41) dX10_pass_41 ?_
          refine s_iconst X (pc := 42) (v := 0) dX10_pass_42 (by decide) ?_
          refine s_iast X (pc := 43) (n := 23) (f := sX10_tell_9 a0 a1 a5 a6 a7 (aX10_pass_2 a0 a1 a5 a6 a7 a9 k2) (nI k2) ((aX10_pass_2 a0 a1 a5 a6 a7 a9 k2) ((4 : Int32) + (nI k2)).toNatClampNeg)) (w2 := wX10 G ad a0 a1 a2 a3 a4 a5 a6 a7 a8 (upd (sX10_tell_9 a0 a1 a5 a6 a7 (aX10_pass_2 a0 a1 a5 a6 a7 a9 k2) (nI k2) ((aX10_pass_2 a0 a1 a5 a6 a7 a9 k2) ((4 : Int32) + (nI k2)).toNatClampNeg)) ((8 : Int32) + (nI k2)).toNatClampNeg (0 : Int32)) a10 a11 a12 a13 a14 a15 a16 a17 a18 a19 a20 a21 a22 a23 a24 a25 a26 a27 a28 a29 a30 a31 a32 a33 a34 a35 a36 a37 a38) 7 rfl (by first | with_reducible assumption | exact vin (b := 23) rfl (by grind) (by grind)) rfl dX10_pass_43 ?_
          refine s_iinc X (pc := 44) (v := nI (k2 + 1)) (lv2 := [(1, .int (nI (k2 + 1))), (0, .ref (ad 0))]) 1 dX10_pass_44 rfl (nI_1 _) (by decide) rfl ?_
          refine s_goto X (pc := 47) (tgt := 2) dX10_pass_47 (by decide) ?_
          refine s_perm (lv2 := [(0, .ref (ad 0)), (1, .int (nI (k2 + 1)))]) [1, 0] rfl ?_
          have hb2 : (aX10_pass_2 a0 a1 a5 a6 a7 a9 (k2 + 1)) = upd (sX10_tell_9 a0 a1 a5 a6 a7 (aX10_pass_2 a0 a1 a5 a6 a7 a9 k2) (nI k2) ((aX10_pass_2 a0 a1 a5 a6 a7 a9 k2) ((4 : Int32) + (nI k2)).toNatClampNeg)) ((8 : Int32) + (nI k2)).toNatClampNeg (0 : Int32) := by rw [aX10_pass_2]; exact (if_neg c18)
          refine s_cast (lv2 := [(0, .ref (ad 0)), (1, .int (nI (k2 + 1)))]) (w2 := wX10 G ad a0 a1 a2 a3 a4 a5 a6 a7 a8 (aX10_pass_2 a0 a1 a5 a6 a7 a9 (k2 + 1)) a10 a11 a12 a13 a14 a15 a16 a17 a18 a19 a20 a21 a22 a23 a24 a25 a26 a27 a28 a29 a30 a31 a32 a33 a34 a35 a36 a37 a38) (by first | (rw [hb2]; done) | rfl) (by first | (rw [hb2]; done) | rfl) ?_
          exact ih2 (k2 + 1) (by omega)
  exact L2 a2.toNatClampNeg 0 (Nat.zero_add _)

theorem inc_le {x : Int32} {b : Int} (h0 : 0 ≤ x) (h1 : x.toInt ≤ b) (hb : b < 2147483647) : 0 ≤ x + 1 ∧ (x + 1).toInt ≤ b + 1 := by
  have a := Int32.le_iff_toInt_le.mp h0
  have e0 : (0 : Int32).toInt = 0 := rfl
  rw [e0] at a
  have e : (x + 1).toInt = x.toInt + 1 := by
    rw [Int32.toInt_add]
    have e1 : (1 : Int32).toInt = 1 := rfl
    rw [e1]
    apply Int.bmod_eq_of_le <;> omega
  refine ⟨?_, by omega⟩
  rw [Int32.le_iff_toInt_le, e, e0]
  omega
theorem NI_pass {b : Int} {a0 a2 : Int32} {a1 a5 a6 a7 f : Nat → Int32} (h0 : 0 ≤ a2) (h4 : a2 ≤ 4) (hb : b < 2147483647) (hf : NI b f) : NI (b + 1) (sX10_pass_9 a0 a1 a2 a5 a6 a7 f) := by
  have hN := clampLe (n := 4) (b := 4) rfl h0 h4
  have h := NI_pass0 (a0 := a0) (a1 := a1) (a5 := a5) (a6 := a6) (a7 := a7) hf _ hN
  unfold sX10_pass_9
  have q := inc_le h.1 h.2.1 hb
  refine ⟨?_, ?_, fun j hj => ?_⟩
  · rw [show upd (aX10_pass_2 a0 a1 a5 a6 a7 f a2.toNatClampNeg) 22 ((aX10_pass_2 a0 a1 a5 a6 a7 f a2.toNatClampNeg) 22 + 1) 22 = (aX10_pass_2 a0 a1 a5 a6 a7 f a2.toNatClampNeg) 22 + 1 from pk_us]
    exact q.1
  · rw [show upd (aX10_pass_2 a0 a1 a5 a6 a7 f a2.toNatClampNeg) 22 ((aX10_pass_2 a0 a1 a5 a6 a7 f a2.toNatClampNeg) 22 + 1) 22 = (aX10_pass_2 a0 a1 a5 a6 a7 f a2.toNatClampNeg) 22 + 1 from pk_us]
    exact q.2
  · unfold upd
    rw [if_neg (by omega)]
    exact h.2.2 j hj

theorem iX10_hoursRefused_X10 : ∀ z ∈ wsX100, z ∈ wsX10_hoursRefused := fun z h => List.mem_cons_of_mem _ (List.mem_append_right _ h)
theorem kX10_hoursRefused_l198 : Jvm.Cond.constantLong RX10 198 (60) ∈ wsX10_hoursRefused := List.mem_of_getElem? (i := 1) rfl
theorem kX10_hoursRefused_152 : Cond.fieldLink RX10 152 "BathingCourtModel" (TX10 0).2.1 (TX10 0).2.2.1 ∈ wsX10_hoursRefused := List.mem_of_getElem? (i := 3) rfl
theorem kX10_hoursRefused_28 : Cond.fieldLink RX10 28 "BathingCourtModel" (TX10 9).2.1 (TX10 9).2.2.1 ∈ wsX10_hoursRefused := List.mem_of_getElem? (i := 5) rfl
theorem kX10_hoursRefused_c105 : Jvm.Cond.constant RX10 105 (-1000000004) ∈ wsX10_hoursRefused := List.mem_of_getElem? (i := 6) rfl
theorem kX10_hoursRefused_c183 : Jvm.Cond.constant RX10 183 (-1000000003) ∈ wsX10_hoursRefused := List.mem_of_getElem? (i := 4) rfl
theorem kX10_hoursRefused_c101 : Jvm.Cond.constant RX10 101 (-1000000002) ∈ wsX10_hoursRefused := List.mem_of_getElem? (i := 2) rfl
def rX10_hoursRefused (a0 : Int32) (a9 : Nat → Int32) (p0 : Int32) : Int32 := if (rX10_in p0.toInt64 (1 : Int64) (60 : Int64)) = 0 then (-1000000002 : Int32) else (if a0 = 0 then (-1000000003 : Int32) else (if (a9 22) ≤ (9000 : Int32) then (0 : Int32) else (-1000000004 : Int32)))
set_option maxRecDepth 100000 in
set_option maxHeartbeats 4000000 in
theorem c_X10_hoursRefused (l : Launch) (G : GT) (ad : Nat → Nat) (a0 : Int32) (a1 : Nat → Int32) (a2 : Int32) (a3 : Nat → Int32) (a4 : Int32) (a5 a6 a7 a8 a9 : Nat → Int32) (a10 : Int32) (a11 : Nat → Int32) (a12 a13 a14 a15 a16 a17 : Int32) (a18 : Nat → Int32) (a19 : Int32) (a20 : Nat → Int32) (a21 : Int32) (a22 a23 a24 a25 : Nat → Int32) (a26 : Int32) (a27 a28 a29 a30 : Nat → Int32) (a31 : Int32) (a32 a33 : Nat → Int32) (a34 : Int32) (a35 a36 a37 a38 : Nat → Int32) (p0 : Int32) : Ci l G yX10_hoursRefused wsX10_hoursRefused (rmL 1) [.ref (ad 0), .int p0] (wX10 G ad a0 a1 a2 a3 a4 a5 a6 a7 a8 a9 a10 a11 a12 a13 a14 a15 a16 a17 a18 a19 a20 a21 a22 a23 a24 a25 a26 a27 a28 a29 a30 a31 a32 a33 a34 a35 a36 a37 a38) (rX10_hoursRefused a0 a9 p0) (wX10 G ad a0 a1 a2 a3 a4 a5 a6 a7 a8 a9 a10 a11 a12 a13 a14 a15 a16 a17 a18 a19 a20 a21 a22 a23 a24 a25 a26 a27 a28 a29 a30 a31 a32 a33 a34 a35 a36 a37 a38) := by
  refine ci_start .int (by decide) rfl rfl (Nat.le_of_ble_eq_true rfl) ?_
  intro p e s m args below meth c A X
  refine s_perm (lv2 := [(0, .ref (ad 0)), (1, .int p0)]) [0, 1] rfl ?_
  refine s_iload_n X (pc := 0) (x := p0) 1 dX10_hoursRefused_0 rfl ?_
  refine s_i2l X (pc := 1) dX10_hoursRefused_1 ?_
  refine s_lconst X (pc := 2) (v := 1) dX10_hoursRefused_2 (by decide) ?_
  refine s_ldc2 X (pc := 3) (v := 60) kX10_hoursRefused_l198 dX10_hoursRefused_3 ?_
  refine s_callSiN X (pc := 6) (r := rX10_in p0.toInt64 (1 : Int64) (60 : Int64)) (n := 3) (st := []) (As := [.long p0.toInt64, .long (1 : Int64), .long (60 : Int64)]) 0 (c_X10_in l G p0.toInt64 (1 : Int64) (60 : Int64)) gX10_hoursRefused_X10_in rfl (by decide +kernel) ⟨Nat.le_of_ble_eq_true rfl, Nat.le_of_ble_eq_true rfl⟩ rfl rfl (Nat.le_of_ble_eq_true rfl) (Nat.zero_le _) (Nat.zero_le _) dX10_hoursRefused_6 ?_
  refine s_if_ne X (pc := 9) (tgt := 15) dX10_hoursRefused_9 (by decide) (fun c9 => ?_) (fun c9 => ?_)
  ·
    refine s_aload_n X (pc := 15) (x := (ad 0)) 0 dX10_hoursRefused_15 rfl ?_
    refine s_get X (pc := 16) (v := .int a0) iX10_hoursRefused_X10 0 rfl rfl 0 (by decide) kX10_hoursRefused_152 rfl rfl dX10_hoursRefused_16 ?_
    refine s_if_ne X (pc := 19) (tgt := 27) dX10_hoursRefused_19 (by decide) (fun c19 => ?_) (fun c19 => ?_)
    ·
      refine s_aload_n X (pc := 27) (x := (ad 0)) 0 dX10_hoursRefused_27 rfl ?_
      refine s_get X (pc := 28) (v := .ref (ad 10)) iX10_hoursRefused_X10 0 rfl rfl 9 (by decide) kX10_hoursRefused_28 rfl rfl dX10_hoursRefused_28 ?_
      refine s_bipush X (pc := 31) (v := 22) dX10_hoursRefused_31 (by decide) ?_
      refine s_iald X (pc := 33) (n := 23) (f := a9) 7 rfl (vp_in_iff.mpr (by decide)) dX10_hoursRefused_33 ?_
      refine s_topeq (y := a9 22) rfl ?_
      refine s_sipush X (pc := 34) (v := 9000) dX10_hoursRefused_34 (by decide) ?_
      refine s_icmp_le X (pc := 37) (tgt := 45) dX10_hoursRefused_37 (by decide) (fun c37 => ?_) (fun c37 => ?_)
      ·
        refine s_iconst X (pc := 45) (v := 0) dX10_hoursRefused_45 (by decide) ?_
        exact s_iret X (pc := 46) (v := (0 : Int32)) dX10_hoursRefused_46 (Eq.symm (show rX10_hoursRefused a0 a9 p0 = (0 : Int32) from (by unfold rX10_hoursRefused; exact ((if_neg c9).trans ((if_neg c19).trans (if_pos c37)))))) rfl
      ·
        refine s_ldc X (pc := 40) (v := -1000000004) kX10_hoursRefused_c105 dX10_hoursRefused_40 ?_
        refine s_goto X (pc := 42) (tgt := 46) dX10_hoursRefused_42 (by decide) ?_
        exact s_iret X (pc := 46) (v := (-1000000004 : Int32)) dX10_hoursRefused_46 (Eq.symm (show rX10_hoursRefused a0 a9 p0 = (-1000000004 : Int32) from (by unfold rX10_hoursRefused; exact ((if_neg c9).trans ((if_neg c19).trans (if_neg c37)))))) rfl
    ·
      refine s_ldc X (pc := 22) (v := -1000000003) kX10_hoursRefused_c183 dX10_hoursRefused_22 ?_
      refine s_goto X (pc := 24) (tgt := 46) dX10_hoursRefused_24 (by decide) ?_
      exact s_iret X (pc := 46) (v := (-1000000003 : Int32)) dX10_hoursRefused_46 (Eq.symm (show rX10_hoursRefused a0 a9 p0 = (-1000000003 : Int32) from (by unfold rX10_hoursRefused; exact ((if_neg c9).trans (if_pos c19))))) rfl
  ·
    refine s_ldc X (pc := 12) (v := -1000000002) kX10_hoursRefused_c101 dX10_hoursRefused_12 ?_
    exact s_iret X (pc := 14) (v := (-1000000002 : Int32)) dX10_hoursRefused_14 (Eq.symm (show rX10_hoursRefused a0 a9 p0 = (-1000000002 : Int32) from (by unfold rX10_hoursRefused; exact (if_pos c9)))) rfl

theorem hr0 {a0 : Int32} {a9 : Nat → Int32} {p0 : Int32} (h : rX10_hoursRefused a0 a9 p0 = 0) : (1 ≤ p0 ∧ p0 ≤ 60) ∧ a0 ≠ 0 ∧ a9 22 ≤ 9000 := by
  unfold rX10_hoursRefused at h
  split at h
  · exact absurd h (by decide)
  · rename_i q
    have q1 := inI 1 60 rfl rfl q
    split at h
    · exact absurd h (by decide)
    · rename_i q2
      split at h
      · rename_i q3
        exact ⟨q1, q2, q3⟩
      · exact absurd h (by decide)

theorem iX10_hour_X10 : ∀ z ∈ wsX100, z ∈ wsX10_hour := fun z h => List.mem_cons_of_mem _ (List.mem_append_right _ h)
theorem kX10_hour_28 : Cond.fieldLink RX10 28 "BathingCourtModel" (TX10 9).2.1 (TX10 9).2.2.1 ∈ wsX10_hour := List.mem_of_getElem? (i := 1) rfl
def aX10_hour_18 (a0 : Int32) (a1 : Nat → Int32) (a2 : Int32) (a5 a6 a7 a9 : Nat → Int32) : Nat → (Nat → Int32)
  | 0 => a9
  | k18 + 1 => sX10_pass_9 a0 a1 a2 a5 a6 a7 (aX10_hour_18 a0 a1 a2 a5 a6 a7 a9 k18)
def rX10_hour (a0 : Int32) (a1 : Nat → Int32) (a2 : Int32) (a5 a6 a7 a9 : Nat → Int32) (p0 : Int32) : Int32 := if (rX10_hoursRefused a0 a9 p0) = 0 then ((aX10_hour_18 a0 a1 a2 a5 a6 a7 a9 p0.toNatClampNeg) 22) else (rX10_hoursRefused a0 a9 p0)
def sX10_hour_9 (a0 : Int32) (a1 : Nat → Int32) (a2 : Int32) (a5 a6 a7 a9 : Nat → Int32) (p0 : Int32) : Nat → Int32 := if (rX10_hoursRefused a0 a9 p0) = 0 then (aX10_hour_18 a0 a1 a2 a5 a6 a7 a9 p0.toNatClampNeg) else a9
def sX10_hour_26 (a0 : Int32) (a9 : Nat → Int32) (a26 p0 : Int32) : Int32 := if (rX10_hoursRefused a0 a9 p0) = 0 then (sX10_remember_26 a26) else a26
def sX10_hour_27 (a0 : Int32) (a9 : Nat → Int32) (a26 : Int32) (a27 : Nat → Int32) (p0 : Int32) : Nat → Int32 := if (rX10_hoursRefused a0 a9 p0) = 0 then (sX10_remember_27 a9 a26 a27) else a27
theorem NI_hour {a0 a2 : Int32} {a1 a5 a6 a7 a9 : Nat → Int32} (h0 : 0 ≤ a2) (h4 : a2 ≤ 4) {b : Int} (hf : NI b a9) (h9 : a9 22 ≤ 9000) : ∀ k : Nat, k ≤ 60 → NI (9000 + k) (aX10_hour_18 a0 a1 a2 a5 a6 a7 a9 k) := by
  intro k
  induction k with
  | zero =>
    intro _
    have := Int32.le_iff_toInt_le.mp h9
    exact ⟨hf.1, this, hf.2.2⟩
  | succ k ih =>
    intro hk
    rw [aX10_hour_18]
    have := NI_pass (a0 := a0) (a1 := a1) (a5 := a5) (a6 := a6) (a7 := a7) h0 h4 (by omega) (ih (by omega))
    rw [show (9000 : Int) + ((k + 1 : Nat) : Int) = 9000 + (k : Int) + 1 by omega]
    exact this

set_option maxRecDepth 100000 in
set_option maxHeartbeats 4000000 in
theorem c_X10_hour (l : Launch) (G : GT) (ad : Nat → Nat) (a0 : Int32) (a1 : Nat → Int32) (a2 : Int32) (a3 : Nat → Int32) (a4 : Int32) (a5 a6 a7 a8 a9 : Nat → Int32) (a10 : Int32) (a11 : Nat → Int32) (a12 a13 a14 a15 a16 a17 : Int32) (a18 : Nat → Int32) (a19 : Int32) (a20 : Nat → Int32) (a21 : Int32) (a22 a23 a24 a25 : Nat → Int32) (a26 : Int32) (a27 a28 a29 a30 : Nat → Int32) (a31 : Int32) (a32 a33 : Nat → Int32) (a34 : Int32) (a35 a36 a37 a38 : Nat → Int32) (p0 : Int32) (h0 : 0 ≤ a2) (h4 : a2 ≤ 4) (t0 : 0 ≤ a0) (t12 : a0 ≤ 12) (u0 : 0 ≤ a26) (u20 : a26 ≤ 20) (b : Int) (hN : NI b a9) : Ci l G yX10_hour wsX10_hour (rmL 3) [.ref (ad 0), .int p0] (wX10 G ad a0 a1 a2 a3 a4 a5 a6 a7 a8 a9 a10 a11 a12 a13 a14 a15 a16 a17 a18 a19 a20 a21 a22 a23 a24 a25 a26 a27 a28 a29 a30 a31 a32 a33 a34 a35 a36 a37 a38) (rX10_hour a0 a1 a2 a5 a6 a7 a9 p0) (wX10 G ad a0 a1 a2 a3 a4 a5 a6 a7 a8 (sX10_hour_9 a0 a1 a2 a5 a6 a7 a9 p0) a10 a11 a12 a13 a14 a15 a16 a17 a18 a19 a20 a21 a22 a23 a24 a25 (sX10_hour_26 a0 a9 a26 p0) (sX10_hour_27 a0 a9 a26 a27 p0) a28 a29 a30 a31 a32 a33 a34 a35 a36 a37 a38) := by
  refine ci_start .int (by decide) rfl rfl (Nat.le_of_ble_eq_true rfl) ?_
  intro p e s m args below meth c A X
  refine s_perm (lv2 := [(0, .ref (ad 0)), (1, .int p0)]) [0, 1] rfl ?_
  refine s_aload_n X (pc := 0) (x := (ad 0)) 0 dX10_hour_0 rfl ?_
  refine s_iload_n X (pc := 1) (x := p0) 1 dX10_hour_1 rfl ?_
  refine s_callVi0 X (pc := 2) (r := rX10_hoursRefused a0 a9 p0) (w := wX10 G ad a0 a1 a2 a3 a4 a5 a6 a7 a8 a9 a10 a11 a12 a13 a14 a15 a16 a17 a18 a19 a20 a21 a22 a23 a24 a25 a26 a27 a28 a29 a30 a31 a32 a33 a34 a35 a36 a37 a38) (n := 1) (st := []) (As := [.int p0]) (w2 := wX10 G ad a0 a1 a2 a3 a4 a5 a6 a7 a8 a9 a10 a11 a12 a13 a14 a15 a16 a17 a18 a19 a20 a21 a22 a23 a24 a25 a26 a27 a28 a29 a30 a31 a32 a33 a34 a35 a36 a37 a38) 1 (c_X10_hoursRefused l G ad a0 a1 a2 a3 a4 a5 a6 a7 a8 a9 a10 a11 a12 a13 a14 a15 a16 a17 a18 a19 a20 a21 a22 a23 a24 a25 a26 a27 a28 a29 a30 a31 a32 a33 a34 a35 a36 a37 a38 p0) gX10_hour_X10_hoursRefused rfl (by decide +kernel) ⟨Nat.le_of_ble_eq_true rfl, Nat.le_of_ble_eq_true rfl⟩ 0 rfl rfl rfl rfl (Nat.le_of_ble_eq_true rfl) (Nat.zero_le _) (Nat.zero_le _) dX10_hour_2 ?_
  refine s_istore_n X (pc := 5) (i := 2) (lv2 := [(2, .int (rX10_hoursRefused a0 a9 p0)), (0, .ref (ad 0)), (1, .int p0)]) dX10_hour_5 rfl (by decide) rfl ?_
  refine s_iload_n X (pc := 6) (x := rX10_hoursRefused a0 a9 p0) 0 dX10_hour_6 rfl ?_
  refine s_if_eq X (pc := 7) (tgt := 12) dX10_hour_7 (by decide) (fun c7 => ?_) (fun c7 => ?_)
  ·
    have q7 := hr0 c7
    have e0 := clampInt (x := p0) (by grind)
    have hNp := clampLe (x := p0) (n := 60) (b := 60) rfl (by grind) q7.1.2
    have tp : 0 < a0 := by grind
    refine s_aload_n X (pc := 12) (x := (ad 0)) 1 dX10_hour_12 rfl ?_
    refine s_callVv0 X (pc := 13) (w := wX10 G ad a0 a1 a2 a3 a4 a5 a6 a7 a8 a9 a10 a11 a12 a13 a14 a15 a16 a17 a18 a19 a20 a21 a22 a23 a24 a25 a26 a27 a28 a29 a30 a31 a32 a33 a34 a35 a36 a37 a38) (n := 0) (st := []) (As := []) (w2 := wX10 G ad a0 a1 a2 a3 a4 a5 a6 a7 a8 a9 a10 a11 a12 a13 a14 a15 a16 a17 a18 a19 a20 a21 a22 a23 a24 a25 (sX10_remember_26 a26) (sX10_remember_27 a9 a26 a27) a28 a29 a30 a31 a32 a33 a34 a35 a36 a37 a38) 0 (c_X10_remember l G ad a0 a1 a2 a3 a4 a5 a6 a7 a8 a9 a10 a11 a12 a13 a14 a15 a16 a17 a18 a19 a20 a21 a22 a23 a24 a25 a26 a27 a28 a29 a30 a31 a32 a33 a34 a35 a36 a37 a38 u0 u20) gX10_hour_X10_remember rfl (by decide +kernel) ⟨Nat.le_of_ble_eq_true rfl, Nat.le_of_ble_eq_true rfl⟩ 0 rfl rfl rfl rfl (Nat.le_of_ble_eq_true rfl) (Nat.zero_le _) (Nat.zero_le _) dX10_hour_13 ?_
    refine s_iconst X (pc := 16) (v := 0) dX10_hour_16 (by decide) ?_
    refine s_istore_n X (pc := 17) (i := 3) (lv2 := [(3, .int (0 : Int32)), (2, .int (rX10_hoursRefused a0 a9 p0)), (0, .ref (ad 0)), (1, .int p0)]) dX10_hour_17 rfl (by decide) rfl ?_
    refine s_perm (lv2 := [(0, .ref (ad 0)), (1, .int p0), (2, .int (rX10_hoursRefused a0 a9 p0)), (3, .int (0 : Int32))]) [2, 3, 1, 0] rfl ?_
    have L18 : ∀ (n18 k18 : Nat), k18 + n18 = p0.toNatClampNeg → Sm p l e (rmL 3) s m args below meth c G A 4 0 0 (Qci below G A args s (rX10_hour a0 a1 a2 a5 a6 a7 a9 p0) (wX10 G ad a0 a1 a2 a3 a4 a5 a6 a7 a8 (sX10_hour_9 a0 a1 a2 a5 a6 a7 a9 p0) a10 a11 a12 a13 a14 a15 a16 a17 a18 a19 a20 a21 a22 a23 a24 a25 (sX10_hour_26 a0 a9 a26 p0) (sX10_hour_27 a0 a9 a26 a27 p0) a28 a29 a30 a31 a32 a33 a34 a35 a36 a37 a38)) 18 [(0, .ref (ad 0)), (1, .int p0), (2, .int (rX10_hoursRefused a0 a9 p0)), (3, .int (nI k18))] [] (wX10 G ad a0 a1 a2 a3 a4 a5 a6 a7 a8 (aX10_hour_18 a0 a1 a2 a5 a6 a7 a9 k18) a10 a11 a12 a13 a14 a15 a16 a17 a18 a19 a20 a21 a22 a23 a24 a25 (sX10_remember_26 a26) (sX10_remember_27 a9 a26 a27) a28 a29 a30 a31 a32 a33 a34 a35 a36 a37 a38) := by
      intro n18
      induction n18 with
      | zero =>
        intro k18 hk18
        have hK18 : k18 = p0.toNatClampNeg := by omega
        rw [hK18]
        have tk18 : (nI p0.toNatClampNeg).toInt = ((p0.toNatClampNeg : Nat) : Int) := nI_toInt (by omega)
        have eN18 : (p0).toInt = ((p0.toNatClampNeg : Nat) : Int) := e0
        refine s_iload_n X (pc := 18) (x := nI p0.toNatClampNeg) 3 dX10_hour_18 rfl ?_
        refine s_iload_n X (pc := 19) (x := p0) 1 dX10_hour_19 rfl ?_
        refine s_icmp_ge X (pc := 20) (tgt := 33) dX10_hour_20 (by decide) (fun c20 => ?_) (fun c20 => ?_)
        ·
          refine s_aload_n X (pc := 33) (x := (ad 0)) 0 dX10_hour_33 rfl ?_
          refine s_get X (pc := 34) (v := .ref (ad 10)) iX10_hour_X10 0 rfl rfl 9 (by decide) kX10_hour_28 rfl rfl dX10_hour_34 ?_
          refine s_bipush X (pc := 37) (v := 22) dX10_hour_37 (by decide) ?_
          refine s_iald X (pc := 39) (n := 23) (f := (aX10_hour_18 a0 a1 a2 a5 a6 a7 a9 p0.toNatClampNeg)) 7 rfl (vp_in_iff.mpr (by decide)) dX10_hour_39 ?_
          refine s_topeq (y := (aX10_hour_18 a0 a1 a2 a5 a6 a7 a9 p0.toNatClampNeg) 22) rfl ?_
          exact s_iret X (pc := 40) (v := (aX10_hour_18 a0 a1 a2 a5 a6 a7 a9 p0.toNatClampNeg) 22) dX10_hour_40 (Eq.symm (show rX10_hour a0 a1 a2 a5 a6 a7 a9 p0 = (aX10_hour_18 a0 a1 a2 a5 a6 a7 a9 p0.toNatClampNeg) 22 from (by unfold rX10_hour; exact (if_pos c7)))) (by rw [show sX10_hour_9 a0 a1 a2 a5 a6 a7 a9 p0 = (aX10_hour_18 a0 a1 a2 a5 a6 a7 a9 p0.toNatClampNeg) from (by unfold sX10_hour_9; exact (if_pos c7)), show sX10_hour_26 a0 a9 a26 p0 = sX10_remember_26 a26 from (by unfold sX10_hour_26; exact (if_pos c7)), show sX10_hour_27 a0 a9 a26 a27 p0 = sX10_remember_27 a9 a26 a27 from (by unfold sX10_hour_27; exact (if_pos c7))])
        ·
          exact absurd ((t_le eN18 tk18).mpr (by omega)) c20
      | succ n18 ih18 =>
        intro k18 hk18
        have hlt18 : k18 < p0.toNatClampNeg := by omega
        have tk18 : (nI k18).toInt = ((k18 : Nat) : Int) := nI_toInt (by omega)
        have eN18 : (p0).toInt = ((p0.toNatClampNeg : Nat) : Int) := e0
        refine s_iload_n X (pc := 18) (x := nI k18) 3 dX10_hour_18 rfl ?_
        refine s_iload_n X (pc := 19) (x := p0) 1 dX10_hour_19 rfl ?_
        refine s_icmp_ge X (pc := 20) (tgt := 33) dX10_hour_20 (by decide) (fun c20 => ?_) (fun c20 => ?_)
        ·
          exact absurd ((t_le eN18 tk18).mp c20) (by omega)
        ·
          refine s_aload_n X (pc := 23) (x := (ad 0)) 0 dX10_hour_23 rfl ?_
          refine s_callVv0 X (pc := 24) (w := wX10 G ad a0 a1 a2 a3 a4 a5 a6 a7 a8 (aX10_hour_18 a0 a1 a2 a5 a6 a7 a9 k18) a10 a11 a12 a13 a14 a15 a16 a17 a18 a19 a20 a21 a22 a23 a24 a25 (sX10_remember_26 a26) (sX10_remember_27 a9 a26 a27) a28 a29 a30 a31 a32 a33 a34 a35 a36 a37 a38) (n := 0) (st := []) (As := []) (w2 := wX10 G ad a0 a1 a2 a3 a4 a5 a6 a7 a8 (sX10_pass_9 a0 a1 a2 a5 a6 a7 (aX10_hour_18 a0 a1 a2 a5 a6 a7 a9 k18)) a10 a11 a12 a13 a14 a15 a16 a17 a18 a19 a20 a21 a22 a23 a24 a25 (sX10_remember_26 a26) (sX10_remember_27 a9 a26 a27) a28 a29 a30 a31 a32 a33 a34 a35 a36 a37 a38) 2 (c_X10_pass l G ad a0 a1 a2 a3 a4 a5 a6 a7 a8 (aX10_hour_18 a0 a1 a2 a5 a6 a7 a9 k18) a10 a11 a12 a13 a14 a15 a16 a17 a18 a19 a20 a21 a22 a23 a24 a25 (sX10_remember_26 a26) (sX10_remember_27 a9 a26 a27) a28 a29 a30 a31 a32 a33 a34 a35 a36 a37 a38 h0 h4 tp t12 (9000 + k18) (NI_hour h0 h4 hN q7.2.2 k18 (by omega))) gX10_hour_X10_pass rfl (by decide +kernel) ⟨Nat.le_of_ble_eq_true rfl, Nat.le_of_ble_eq_true rfl⟩ 0 rfl rfl rfl rfl (Nat.le_of_ble_eq_true rfl) (Nat.zero_le _) (Nat.zero_le _) dX10_hour_24 ?_
          refine s_iinc X (pc := 27) (v := nI (k18 + 1)) (lv2 := [(3, .int (nI (k18 + 1))), (0, .ref (ad 0)), (1, .int p0), (2, .int (rX10_hoursRefused a0 a9 p0))]) 3 dX10_hour_27 rfl (nI_1 _) (by decide) rfl ?_
          refine s_goto X (pc := 30) (tgt := 18) dX10_hour_30 (by decide) ?_
          refine s_perm (lv2 := [(0, .ref (ad 0)), (1, .int p0), (2, .int (rX10_hoursRefused a0 a9 p0)), (3, .int (nI (k18 + 1)))]) [1, 2, 3, 0] rfl ?_
          have hb18 : (aX10_hour_18 a0 a1 a2 a5 a6 a7 a9 (k18 + 1)) = sX10_pass_9 a0 a1 a2 a5 a6 a7 (aX10_hour_18 a0 a1 a2 a5 a6 a7 a9 k18) := rfl
          refine s_cast (lv2 := [(0, .ref (ad 0)), (1, .int p0), (2, .int (rX10_hoursRefused a0 a9 p0)), (3, .int (nI (k18 + 1)))]) (w2 := wX10 G ad a0 a1 a2 a3 a4 a5 a6 a7 a8 (aX10_hour_18 a0 a1 a2 a5 a6 a7 a9 (k18 + 1)) a10 a11 a12 a13 a14 a15 a16 a17 a18 a19 a20 a21 a22 a23 a24 a25 (sX10_remember_26 a26) (sX10_remember_27 a9 a26 a27) a28 a29 a30 a31 a32 a33 a34 a35 a36 a37 a38) (by first | (rw [hb18]; done) | rfl) (by first | (rw [hb18]; done) | rfl) ?_
          exact ih18 (k18 + 1) (by omega)
    exact L18 p0.toNatClampNeg 0 (Nat.zero_add _)
  ·
    refine s_iload_n X (pc := 10) (x := rX10_hoursRefused a0 a9 p0) 0 dX10_hour_10 rfl ?_
    exact s_iret X (pc := 11) (v := rX10_hoursRefused a0 a9 p0) dX10_hour_11 (Eq.symm (show rX10_hour a0 a1 a2 a5 a6 a7 a9 p0 = rX10_hoursRefused a0 a9 p0 from (by unfold rX10_hour; exact (if_neg c7)))) (by rw [show sX10_hour_9 a0 a1 a2 a5 a6 a7 a9 p0 = a9 from (by unfold sX10_hour_9; exact (if_neg c7)), show sX10_hour_26 a0 a9 a26 p0 = a26 from (by unfold sX10_hour_26; exact (if_neg c7)), show sX10_hour_27 a0 a9 a26 a27 p0 = a27 from (by unfold sX10_hour_27; exact (if_neg c7))])
