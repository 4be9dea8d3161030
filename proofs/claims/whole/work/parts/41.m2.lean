theorem here_lt0 {a11 : Nat → Int32} {a12 : Int32} (hl : a12 ≤ 240) : ∀ (n : Nat) (x : Int32), 0 ≤ x → ((240 : Nat) - x.toInt).toNat < n → 0 ≤ (aX10_here_0 a11 a12 n x).1 → (aX10_here_0 a11 a12 n x).2 < a12 := by
  intro n
  induction n with
  | zero => intro x h hm; exact absurd hm (Nat.not_lt_zero _)
  | succ n ih =>
    intro x h hm
    rw [aX10_here_0]
    split
    · rename_i q
      intro r
      exfalso
      revert r
      try split
      all_goals (intro r; revert r; dsimp only; first | exact (by decide) | grind)
    · rename_i q
      split
      · exact ih (x + 1) (a_nn h (i_lt q hl)) (up_lt (b := 240) rfl (i_lt q hl) hm)
      · repeat' split
        all_goals (intro r; dsimp only; grind)
theorem h_lt {a11 : Nat → Int32} {a12 a14 c : Int32} (h0 : 0 ≤ a14) (hl : a12 ≤ 240) (h : rX10_here a11 a12 a14 = c) (hc : 0 ≤ c) : sX10_here_14 a11 a12 a14 < 240 := by
  unfold rX10_here at h
  unfold sX10_here_14
  exact Int32.lt_of_lt_of_le (here_lt0 hl 241 a14 h0 (m_lt h0) (h ▸ hc)) hl
theorem tn_m0 {a11 : Nat → Int32} {a12 a13 a14 : Int32} {p0 p1 : Int32} (hl : a12 ≤ 240) : ∀ (n : Nat) (x v : Int32), 0 ≤ x → x ≤ (aX10_takeNumber_42 a11 a12 a13 a14 p0 p1 n x v).2.2.1 ∧ (x ≤ 240 → (aX10_takeNumber_42 a11 a12 a13 a14 p0 p1 n x v).2.2.1 ≤ 240) := by
  intro n
  induction n with
  | zero => intro x v h; exact ⟨Int32.le_refl _, fun q => q⟩
  | succ n ih =>
    intro x v h
    rw [aX10_takeNumber_42]
    repeat' split
    all_goals first | with_reducible exact ⟨Int32.le_refl _, fun q => q⟩ | (rename_i q _ _; have hx1 : x < 240 := i_lt q hl; with_reducible exact ⟨Int32.le_trans (by grind) (ih (x + 1) _ (a_nn h hx1)).1, fun _ => (ih (x + 1) _ (a_nn h hx1)).2 (by grind)⟩)
theorem tn_mo {a11 : Nat → Int32} {a12 a13 a14 p0 p1 : Int32} (h0 : 0 ≤ a14) (hl : a12 ≤ 240) : a14 ≤ sX10_takeNumber_14 a11 a12 a13 a14 p0 p1 := by
  unfold sX10_takeNumber_14
  split
  · exact here_mo h0 hl
  · exact Int32.le_trans (here_mo h0 hl) (tn_m0 hl _ _ _ (here_nn h0 hl)).1
theorem tn_ub {a11 : Nat → Int32} {a12 a13 a14 p0 p1 : Int32} (h0 : 0 ≤ a14) (h1 : a14 ≤ 240) (hl : a12 ≤ 240) : sX10_takeNumber_14 a11 a12 a13 a14 p0 p1 ≤ 240 := by
  unfold sX10_takeNumber_14
  split
  · exact here_ub h0 h1 hl
  · exact (tn_m0 hl _ _ _ (here_nn h0 hl)).2 (here_ub h0 h1 hl)
theorem tn_nn {a11 : Nat → Int32} {a12 a13 a14 p0 p1 : Int32} (h0 : 0 ≤ a14) (hl : a12 ≤ 240) : 0 ≤ sX10_takeNumber_14 a11 a12 a13 a14 p0 p1 := Int32.le_trans h0 (tn_mo h0 hl)

theorem iX10_into_at18_X10 : ∀ z ∈ wsX100, z ∈ wsX10_into := fun z h => List.mem_cons_of_mem _ (List.mem_append_right _ h)
theorem kX10_into_at18_124 : Cond.fieldLink RX10 124 "BathingCourtModel" (TX10 15).2.1 (TX10 15).2.2.1 ∈ wsX10_into := List.mem_of_getElem? (i := 1) rfl
set_option maxRecDepth 100000 in
set_option maxHeartbeats 4000000 in
theorem c_X10_into_at18 (l : Launch) (G : GT) (ad : Nat → Nat) (a0 : Int32) (a1 : Nat → Int32) (a2 : Int32) (a3 : Nat → Int32) (a4 : Int32) (a5 a6 a7 a8 a9 : Nat → Int32) (a10 : Int32) (a11 : Nat → Int32) (a12 a13 a14 a15 a16 a17 : Int32) (a18 : Nat → Int32) (a19 : Int32) (a20 : Nat → Int32) (a21 : Int32) (a22 a23 a24 a25 : Nat → Int32) (a26 : Int32) (a27 a28 a29 a30 : Nat → Int32) (a31 : Int32) (a32 a33 : Nat → Int32) (a34 : Int32) (a35 a36 a37 a38 : Nat → Int32) (p0 p1 p2 : Int32) (h0 : 0 ≤ a14) (hl : a12 ≤ 240) (hk : 0 ≤ p0) (hk2 : p0 < 12) : Ci l G yX10_into wsX10_into (rmL 2) [.ref (ad 0), .ref (ad 19), .int p0, .int p1, .int p2] (wX10 G ad a0 a1 a2 a3 a4 a5 a6 a7 a8 a9 a10 a11 a12 a13 a14 a15 a16 a17 a18 a19 a20 a21 a22 a23 a24 a25 a26 a27 a28 a29 a30 a31 a32 a33 a34 a35 a36 a37 a38) (rX10_takeNumber a11 a12 a13 a14 p1 p2) (wX10 G ad a0 a1 a2 a3 a4 a5 a6 a7 a8 a9 a10 a11 a12 (sX10_takeNumber_13 a11 a12 a13 a14 p1 p2) (sX10_takeNumber_14 a11 a12 a13 a14 p1 p2) (sX10_takeNumber_15 a11 a12 a13 a14 a15 p1 p2) (sX10_takeNumber_16 a11 a12 a14 a16) a17 (upd a18 p0.toNatClampNeg (sX10_takeNumber_15 a11 a12 a13 a14 a15 p1 p2)) a19 a20 a21 a22 a23 a24 a25 a26 a27 a28 a29 a30 a31 a32 a33 a34 a35 a36 a37 a38) := by
  refine ci_start .int (by decide) rfl rfl (Nat.le_of_ble_eq_true rfl) ?_
  intro p e s m args below meth c A X
  refine s_perm (lv2 := [(0, .ref (ad 0)), (1, .ref (ad 19)), (2, .int p0), (3, .int p1), (4, .int p2)]) [0, 1, 2, 3, 4] rfl ?_
  refine s_aload_n X (pc := 0) (x := (ad 0)) 0 dX10_into_0 rfl ?_
  refine s_iload_n X (pc := 1) (x := p1) 3 dX10_into_1 rfl ?_
  refine s_iload X (pc := 2) (x := p2) 4 dX10_into_2 rfl ?_
  refine s_callVi0 X (pc := 4) (r := rX10_takeNumber a11 a12 a13 a14 p1 p2) (w := wX10 G ad a0 a1 a2 a3 a4 a5 a6 a7 a8 a9 a10 a11 a12 a13 a14 a15 a16 a17 a18 a19 a20 a21 a22 a23 a24 a25 a26 a27 a28 a29 a30 a31 a32 a33 a34 a35 a36 a37 a38) (n := 2) (st := []) (As := [.int p1, .int p2]) (w2 := wX10 G ad a0 a1 a2 a3 a4 a5 a6 a7 a8 a9 a10 a11 a12 (sX10_takeNumber_13 a11 a12 a13 a14 p1 p2) (sX10_takeNumber_14 a11 a12 a13 a14 p1 p2) (sX10_takeNumber_15 a11 a12 a13 a14 a15 p1 p2) (sX10_takeNumber_16 a11 a12 a14 a16) a17 a18 a19 a20 a21 a22 a23 a24 a25 a26 a27 a28 a29 a30 a31 a32 a33 a34 a35 a36 a37 a38) 1 (c_X10_takeNumber l G ad a0 a1 a2 a3 a4 a5 a6 a7 a8 a9 a10 a11 a12 a13 a14 a15 a16 a17 a18 a19 a20 a21 a22 a23 a24 a25 a26 a27 a28 a29 a30 a31 a32 a33 a34 a35 a36 a37 a38 p1 p2 h0 hl) gX10_into_X10_takeNumber rfl (by decide +kernel) ⟨Nat.le_of_ble_eq_true rfl, Nat.le_of_ble_eq_true rfl⟩ 0 rfl rfl rfl rfl (Nat.le_of_ble_eq_true rfl) (Nat.zero_le _) (Nat.zero_le _) dX10_into_4 ?_
  refine s_istore X (pc := 7) (i := 5) (lv2 := [(5, .int (rX10_takeNumber a11 a12 a13 a14 p1 p2)), (0, .ref (ad 0)), (1, .ref (ad 19)), (2, .int p0), (3, .int p1), (4, .int p2)]) dX10_into_7 (by decide) rfl ?_
  refine s_aload_n X (pc := 9) (x := (ad 19)) 2 dX10_into_9 rfl ?_
  refine s_iload_n X (pc := 10) (x := p0) 3 dX10_into_10 rfl ?_
  refine s_aload_n X (pc := 11) (x := (ad 0)) 1 dX10_into_11 rfl ?_
  refine s_get X (pc := 12) (v := .int (sX10_takeNumber_15 a11 a12 a13 a14 a15 p1 p2)) iX10_into_at18_X10 0 rfl rfl 15 (by decide) kX10_into_at18_124 rfl rfl dX10_into_12 ?_
  refine s_iast X (pc := 15) (n := 12) (f := a18) (w2 := wX10 G ad a0 a1 a2 a3 a4 a5 a6 a7 a8 a9 a10 a11 a12 (sX10_takeNumber_13 a11 a12 a13 a14 p1 p2) (sX10_takeNumber_14 a11 a12 a13 a14 p1 p2) (sX10_takeNumber_15 a11 a12 a13 a14 a15 p1 p2) (sX10_takeNumber_16 a11 a12 a14 a16) a17 (upd a18 p0.toNatClampNeg (sX10_takeNumber_15 a11 a12 a13 a14 a15 p1 p2)) a19 a20 a21 a22 a23 a24 a25 a26 a27 a28 a29 a30 a31 a32 a33 a34 a35 a36 a37 a38) 9 rfl (by first | with_reducible assumption | exact vin (b := 12) rfl (by grind) (by grind)) rfl dX10_into_15 ?_
  refine s_iload X (pc := 16) (x := rX10_takeNumber a11 a12 a13 a14 p1 p2) 0 dX10_into_16 rfl ?_
  exact s_iret X (pc := 18) (v := rX10_takeNumber a11 a12 a13 a14 p1 p2) dX10_into_18 rfl rfl

theorem iX10_into_at20_X10 : ∀ z ∈ wsX100, z ∈ wsX10_into := fun z h => List.mem_cons_of_mem _ (List.mem_append_right _ h)
theorem kX10_into_at20_124 : Cond.fieldLink RX10 124 "BathingCourtModel" (TX10 15).2.1 (TX10 15).2.2.1 ∈ wsX10_into := List.mem_of_getElem? (i := 1) rfl
set_option maxRecDepth 100000 in
set_option maxHeartbeats 4000000 in
theorem c_X10_into_at20 (l : Launch) (G : GT) (ad : Nat → Nat) (a0 : Int32) (a1 : Nat → Int32) (a2 : Int32) (a3 : Nat → Int32) (a4 : Int32) (a5 a6 a7 a8 a9 : Nat → Int32) (a10 : Int32) (a11 : Nat → Int32) (a12 a13 a14 a15 a16 a17 : Int32) (a18 : Nat → Int32) (a19 : Int32) (a20 : Nat → Int32) (a21 : Int32) (a22 a23 a24 a25 : Nat → Int32) (a26 : Int32) (a27 a28 a29 a30 : Nat → Int32) (a31 : Int32) (a32 a33 : Nat → Int32) (a34 : Int32) (a35 a36 a37 a38 : Nat → Int32) (p0 p1 p2 : Int32) (h0 : 0 ≤ a14) (hl : a12 ≤ 240) (hk : 0 ≤ p0) (hk2 : p0 < 4) : Ci l G yX10_into wsX10_into (rmL 2) [.ref (ad 0), .ref (ad 21), .int p0, .int p1, .int p2] (wX10 G ad a0 a1 a2 a3 a4 a5 a6 a7 a8 a9 a10 a11 a12 a13 a14 a15 a16 a17 a18 a19 a20 a21 a22 a23 a24 a25 a26 a27 a28 a29 a30 a31 a32 a33 a34 a35 a36 a37 a38) (rX10_takeNumber a11 a12 a13 a14 p1 p2) (wX10 G ad a0 a1 a2 a3 a4 a5 a6 a7 a8 a9 a10 a11 a12 (sX10_takeNumber_13 a11 a12 a13 a14 p1 p2) (sX10_takeNumber_14 a11 a12 a13 a14 p1 p2) (sX10_takeNumber_15 a11 a12 a13 a14 a15 p1 p2) (sX10_takeNumber_16 a11 a12 a14 a16) a17 a18 a19 (upd a20 p0.toNatClampNeg (sX10_takeNumber_15 a11 a12 a13 a14 a15 p1 p2)) a21 a22 a23 a24 a25 a26 a27 a28 a29 a30 a31 a32 a33 a34 a35 a36 a37 a38) := by
  refine ci_start .int (by decide) rfl rfl (Nat.le_of_ble_eq_true rfl) ?_
  intro p e s m args below meth c A X
  refine s_perm (lv2 := [(0, .ref (ad 0)), (1, .ref (ad 21)), (2, .int p0), (3, .int p1), (4, .int p2)]) [0, 1, 2, 3, 4] rfl ?_
  refine s_aload_n X (pc := 0) (x := (ad 0)) 0 dX10_into_0 rfl ?_
  refine s_iload_n X (pc := 1) (x := p1) 3 dX10_into_1 rfl ?_
  refine s_iload X (pc := 2) (x := p2) 4 dX10_into_2 rfl ?_
  refine s_callVi0 X (pc := 4) (r := rX10_takeNumber a11 a12 a13 a14 p1 p2) (w := wX10 G ad a0 a1 a2 a3 a4 a5 a6 a7 a8 a9 a10 a11 a12 a13 a14 a15 a16 a17 a18 a19 a20 a21 a22 a23 a24 a25 a26 a27 a28 a29 a30 a31 a32 a33 a34 a35 a36 a37 a38) (n := 2) (st := []) (As := [.int p1, .int p2]) (w2 := wX10 G ad a0 a1 a2 a3 a4 a5 a6 a7 a8 a9 a10 a11 a12 (sX10_takeNumber_13 a11 a12 a13 a14 p1 p2) (sX10_takeNumber_14 a11 a12 a13 a14 p1 p2) (sX10_takeNumber_15 a11 a12 a13 a14 a15 p1 p2) (sX10_takeNumber_16 a11 a12 a14 a16) a17 a18 a19 a20 a21 a22 a23 a24 a25 a26 a27 a28 a29 a30 a31 a32 a33 a34 a35 a36 a37 a38) 1 (c_X10_takeNumber l G ad a0 a1 a2 a3 a4 a5 a6 a7 a8 a9 a10 a11 a12 a13 a14 a15 a16 a17 a18 a19 a20 a21 a22 a23 a24 a25 a26 a27 a28 a29 a30 a31 a32 a33 a34 a35 a36 a37 a38 p1 p2 h0 hl) gX10_into_X10_takeNumber rfl (by decide +kernel) ⟨Nat.le_of_ble_eq_true rfl, Nat.le_of_ble_eq_true rfl⟩ 0 rfl rfl rfl rfl (Nat.le_of_ble_eq_true rfl) (Nat.zero_le _) (Nat.zero_le _) dX10_into_4 ?_
  refine s_istore X (pc := 7) (i := 5) (lv2 := [(5, .int (rX10_takeNumber a11 a12 a13 a14 p1 p2)), (0, .ref (ad 0)), (1, .ref (ad 21)), (2, .int p0), (3, .int p1), (4, .int p2)]) dX10_into_7 (by decide) rfl ?_
  refine s_aload_n X (pc := 9) (x := (ad 21)) 2 dX10_into_9 rfl ?_
  refine s_iload_n X (pc := 10) (x := p0) 3 dX10_into_10 rfl ?_
  refine s_aload_n X (pc := 11) (x := (ad 0)) 1 dX10_into_11 rfl ?_
  refine s_get X (pc := 12) (v := .int (sX10_takeNumber_15 a11 a12 a13 a14 a15 p1 p2)) iX10_into_at20_X10 0 rfl rfl 15 (by decide) kX10_into_at20_124 rfl rfl dX10_into_12 ?_
  refine s_iast X (pc := 15) (n := 4) (f := a20) (w2 := wX10 G ad a0 a1 a2 a3 a4 a5 a6 a7 a8 a9 a10 a11 a12 (sX10_takeNumber_13 a11 a12 a13 a14 p1 p2) (sX10_takeNumber_14 a11 a12 a13 a14 p1 p2) (sX10_takeNumber_15 a11 a12 a13 a14 a15 p1 p2) (sX10_takeNumber_16 a11 a12 a14 a16) a17 a18 a19 (upd a20 p0.toNatClampNeg (sX10_takeNumber_15 a11 a12 a13 a14 a15 p1 p2)) a21 a22 a23 a24 a25 a26 a27 a28 a29 a30 a31 a32 a33 a34 a35 a36 a37 a38) 10 rfl (by first | with_reducible assumption | exact vin (b := 4) rfl (by grind) (by grind)) rfl dX10_into_15 ?_
  refine s_iload X (pc := 16) (x := rX10_takeNumber a11 a12 a13 a14 p1 p2) 0 dX10_into_16 rfl ?_
  exact s_iret X (pc := 18) (v := rX10_takeNumber a11 a12 a13 a14 p1 p2) dX10_into_18 rfl rfl

theorem iX10_into_at22_X10 : ∀ z ∈ wsX100, z ∈ wsX10_into := fun z h => List.mem_cons_of_mem _ (List.mem_append_right _ h)
theorem kX10_into_at22_124 : Cond.fieldLink RX10 124 "BathingCourtModel" (TX10 15).2.1 (TX10 15).2.2.1 ∈ wsX10_into := List.mem_of_getElem? (i := 1) rfl
set_option maxRecDepth 100000 in
set_option maxHeartbeats 4000000 in
theorem c_X10_into_at22 (l : Launch) (G : GT) (ad : Nat → Nat) (a0 : Int32) (a1 : Nat → Int32) (a2 : Int32) (a3 : Nat → Int32) (a4 : Int32) (a5 a6 a7 a8 a9 : Nat → Int32) (a10 : Int32) (a11 : Nat → Int32) (a12 a13 a14 a15 a16 a17 : Int32) (a18 : Nat → Int32) (a19 : Int32) (a20 : Nat → Int32) (a21 : Int32) (a22 a23 a24 a25 : Nat → Int32) (a26 : Int32) (a27 a28 a29 a30 : Nat → Int32) (a31 : Int32) (a32 a33 : Nat → Int32) (a34 : Int32) (a35 a36 a37 a38 : Nat → Int32) (p0 p1 p2 : Int32) (h0 : 0 ≤ a14) (hl : a12 ≤ 240) (hk : 0 ≤ p0) (hk2 : p0 < 5) : Ci l G yX10_into wsX10_into (rmL 2) [.ref (ad 0), .ref (ad 23), .int p0, .int p1, .int p2] (wX10 G ad a0 a1 a2 a3 a4 a5 a6 a7 a8 a9 a10 a11 a12 a13 a14 a15 a16 a17 a18 a19 a20 a21 a22 a23 a24 a25 a26 a27 a28 a29 a30 a31 a32 a33 a34 a35 a36 a37 a38) (rX10_takeNumber a11 a12 a13 a14 p1 p2) (wX10 G ad a0 a1 a2 a3 a4 a5 a6 a7 a8 a9 a10 a11 a12 (sX10_takeNumber_13 a11 a12 a13 a14 p1 p2) (sX10_takeNumber_14 a11 a12 a13 a14 p1 p2) (sX10_takeNumber_15 a11 a12 a13 a14 a15 p1 p2) (sX10_takeNumber_16 a11 a12 a14 a16) a17 a18 a19 a20 a21 (upd a22 p0.toNatClampNeg (sX10_takeNumber_15 a11 a12 a13 a14 a15 p1 p2)) a23 a24 a25 a26 a27 a28 a29 a30 a31 a32 a33 a34 a35 a36 a37 a38) := by
  refine ci_start .int (by decide) rfl rfl (Nat.le_of_ble_eq_true rfl) ?_
  intro p e s m args below meth c A X
  refine s_perm (lv2 := [(0, .ref (ad 0)), (1, .ref (ad 23)), (2, .int p0), (3, .int p1), (4, .int p2)]) [0, 1, 2, 3, 4] rfl ?_
  refine s_aload_n X (pc := 0) (x := (ad 0)) 0 dX10_into_0 rfl ?_
  refine s_iload_n X (pc := 1) (x := p1) 3 dX10_into_1 rfl ?_
  refine s_iload X (pc := 2) (x := p2) 4 dX10_into_2 rfl ?_
  refine s_callVi0 X (pc := 4) (r := rX10_takeNumber a11 a12 a13 a14 p1 p2) (w := wX10 G ad a0 a1 a2 a3 a4 a5 a6 a7 a8 a9 a10 a11 a12 a13 a14 a15 a16 a17 a18 a19 a20 a21 a22 a23 a24 a25 a26 a27 a28 a29 a30 a31 a32 a33 a34 a35 a36 a37 a38) (n := 2) (st := []) (As := [.int p1, .int p2]) (w2 := wX10 G ad a0 a1 a2 a3 a4 a5 a6 a7 a8 a9 a10 a11 a12 (sX10_takeNumber_13 a11 a12 a13 a14 p1 p2) (sX10_takeNumber_14 a11 a12 a13 a14 p1 p2) (sX10_takeNumber_15 a11 a12 a13 a14 a15 p1 p2) (sX10_takeNumber_16 a11 a12 a14 a16) a17 a18 a19 a20 a21 a22 a23 a24 a25 a26 a27 a28 a29 a30 a31 a32 a33 a34 a35 a36 a37 a38) 1 (c_X10_takeNumber l G ad a0 a1 a2 a3 a4 a5 a6 a7 a8 a9 a10 a11 a12 a13 a14 a15 a16 a17 a18 a19 a20 a21 a22 a23 a24 a25 a26 a27 a28 a29 a30 a31 a32 a33 a34 a35 a36 a37 a38 p1 p2 h0 hl) gX10_into_X10_takeNumber rfl (by decide +kernel) ⟨Nat.le_of_ble_eq_true rfl, Nat.le_of_ble_eq_true rfl⟩ 0 rfl rfl rfl rfl (Nat.le_of_ble_eq_true rfl) (Nat.zero_le _) (Nat.zero_le _) dX10_into_4 ?_
  refine s_istore X (pc := 7) (i := 5) (lv2 := [(5, .int (rX10_takeNumber a11 a12 a13 a14 p1 p2)), (0, .ref (ad 0)), (1, .ref (ad 23)), (2, .int p0), (3, .int p1), (4, .int p2)]) dX10_into_7 (by decide) rfl ?_
  refine s_aload_n X (pc := 9) (x := (ad 23)) 2 dX10_into_9 rfl ?_
  refine s_iload_n X (pc := 10) (x := p0) 3 dX10_into_10 rfl ?_
  refine s_aload_n X (pc := 11) (x := (ad 0)) 1 dX10_into_11 rfl ?_
  refine s_get X (pc := 12) (v := .int (sX10_takeNumber_15 a11 a12 a13 a14 a15 p1 p2)) iX10_into_at22_X10 0 rfl rfl 15 (by decide) kX10_into_at22_124 rfl rfl dX10_into_12 ?_
  refine s_iast X (pc := 15) (n := 5) (f := a22) (w2 := wX10 G ad a0 a1 a2 a3 a4 a5 a6 a7 a8 a9 a10 a11 a12 (sX10_takeNumber_13 a11 a12 a13 a14 p1 p2) (sX10_takeNumber_14 a11 a12 a13 a14 p1 p2) (sX10_takeNumber_15 a11 a12 a13 a14 a15 p1 p2) (sX10_takeNumber_16 a11 a12 a14 a16) a17 a18 a19 a20 a21 (upd a22 p0.toNatClampNeg (sX10_takeNumber_15 a11 a12 a13 a14 a15 p1 p2)) a23 a24 a25 a26 a27 a28 a29 a30 a31 a32 a33 a34 a35 a36 a37 a38) 11 rfl (by first | with_reducible assumption | exact vin (b := 5) rfl (by grind) (by grind)) rfl dX10_into_15 ?_
  refine s_iload X (pc := 16) (x := rX10_takeNumber a11 a12 a13 a14 p1 p2) 0 dX10_into_16 rfl ?_
  exact s_iret X (pc := 18) (v := rX10_takeNumber a11 a12 a13 a14 p1 p2) dX10_into_18 rfl rfl

theorem iX10_into_at23_X10 : ∀ z ∈ wsX100, z ∈ wsX10_into := fun z h => List.mem_cons_of_mem _ (List.mem_append_right _ h)
theorem kX10_into_at23_124 : Cond.fieldLink RX10 124 "BathingCourtModel" (TX10 15).2.1 (TX10 15).2.2.1 ∈ wsX10_into := List.mem_of_getElem? (i := 1) rfl
set_option maxRecDepth 100000 in
set_option maxHeartbeats 4000000 in
theorem c_X10_into_at23 (l : Launch) (G : GT) (ad : Nat → Nat) (a0 : Int32) (a1 : Nat → Int32) (a2 : Int32) (a3 : Nat → Int32) (a4 : Int32) (a5 a6 a7 a8 a9 : Nat → Int32) (a10 : Int32) (a11 : Nat → Int32) (a12 a13 a14 a15 a16 a17 : Int32) (a18 : Nat → Int32) (a19 : Int32) (a20 : Nat → Int32) (a21 : Int32) (a22 a23 a24 a25 : Nat → Int32) (a26 : Int32) (a27 a28 a29 a30 : Nat → Int32) (a31 : Int32) (a32 a33 : Nat → Int32) (a34 : Int32) (a35 a36 a37 a38 : Nat → Int32) (p0 p1 p2 : Int32) (h0 : 0 ≤ a14) (hl : a12 ≤ 240) (hk : 0 ≤ p0) (hk2 : p0 < 5) : Ci l G yX10_into wsX10_into (rmL 2) [.ref (ad 0), .ref (ad 24), .int p0, .int p1, .int p2] (wX10 G ad a0 a1 a2 a3 a4 a5 a6 a7 a8 a9 a10 a11 a12 a13 a14 a15 a16 a17 a18 a19 a20 a21 a22 a23 a24 a25 a26 a27 a28 a29 a30 a31 a32 a33 a34 a35 a36 a37 a38) (rX10_takeNumber a11 a12 a13 a14 p1 p2) (wX10 G ad a0 a1 a2 a3 a4 a5 a6 a7 a8 a9 a10 a11 a12 (sX10_takeNumber_13 a11 a12 a13 a14 p1 p2) (sX10_takeNumber_14 a11 a12 a13 a14 p1 p2) (sX10_takeNumber_15 a11 a12 a13 a14 a15 p1 p2) (sX10_takeNumber_16 a11 a12 a14 a16) a17 a18 a19 a20 a21 a22 (upd a23 p0.toNatClampNeg (sX10_takeNumber_15 a11 a12 a13 a14 a15 p1 p2)) a24 a25 a26 a27 a28 a29 a30 a31 a32 a33 a34 a35 a36 a37 a38) := by
  refine ci_start .int (by decide) rfl rfl (Nat.le_of_ble_eq_true rfl) ?_
  intro p e s m args below meth c A X
  refine s_perm (lv2 := [(0, .ref (ad 0)), (1, .ref (ad 24)), (2, .int p0), (3, .int p1), (4, .int p2)]) [0, 1, 2, 3, 4] rfl ?_
  refine s_aload_n X (pc := 0) (x := (ad 0)) 0 dX10_into_0 rfl ?_
  refine s_iload_n X (pc := 1) (x := p1) 3 dX10_into_1 rfl ?_
  refine s_iload X (pc := 2) (x := p2) 4 dX10_into_2 rfl ?_
  refine s_callVi0 X (pc := 4) (r := rX10_takeNumber a11 a12 a13 a14 p1 p2) (w := wX10 G ad a0 a1 a2 a3 a4 a5 a6 a7 a8 a9 a10 a11 a12 a13 a14 a15 a16 a17 a18 a19 a20 a21 a22 a23 a24 a25 a26 a27 a28 a29 a30 a31 a32 a33 a34 a35 a36 a37 a38) (n := 2) (st := []) (As := [.int p1, .int p2]) (w2 := wX10 G ad a0 a1 a2 a3 a4 a5 a6 a7 a8 a9 a10 a11 a12 (sX10_takeNumber_13 a11 a12 a13 a14 p1 p2) (sX10_takeNumber_14 a11 a12 a13 a14 p1 p2) (sX10_takeNumber_15 a11 a12 a13 a14 a15 p1 p2) (sX10_takeNumber_16 a11 a12 a14 a16) a17 a18 a19 a20 a21 a22 a23 a24 a25 a26 a27 a28 a29 a30 a31 a32 a33 a34 a35 a36 a37 a38) 1 (c_X10_takeNumber l G ad a0 a1 a2 a3 a4 a5 a6 a7 a8 a9 a10 a11 a12 a13 a14 a15 a16 a17 a18 a19 a20 a21 a22 a23 a24 a25 a26 a27 a28 a29 a30 a31 a32 a33 a34 a35 a36 a37 a38 p1 p2 h0 hl) gX10_into_X10_takeNumber rfl (by decide +kernel) ⟨Nat.le_of_ble_eq_true rfl, Nat.le_of_ble_eq_true rfl⟩ 0 rfl rfl rfl rfl (Nat.le_of_ble_eq_true rfl) (Nat.zero_le _) (Nat.zero_le _) dX10_into_4 ?_
  refine s_istore X (pc := 7) (i := 5) (lv2 := [(5, .int (rX10_takeNumber a11 a12 a13 a14 p1 p2)), (0, .ref (ad 0)), (1, .ref (ad 24)), (2, .int p0), (3, .int p1), (4, .int p2)]) dX10_into_7 (by decide) rfl ?_
  refine s_aload_n X (pc := 9) (x := (ad 24)) 2 dX10_into_9 rfl ?_
  refine s_iload_n X (pc := 10) (x := p0) 3 dX10_into_10 rfl ?_
  refine s_aload_n X (pc := 11) (x := (ad 0)) 1 dX10_into_11 rfl ?_
  refine s_get X (pc := 12) (v := .int (sX10_takeNumber_15 a11 a12 a13 a14 a15 p1 p2)) iX10_into_at23_X10 0 rfl rfl 15 (by decide) kX10_into_at23_124 rfl rfl dX10_into_12 ?_
  refine s_iast X (pc := 15) (n := 5) (f := a23) (w2 := wX10 G ad a0 a1 a2 a3 a4 a5 a6 a7 a8 a9 a10 a11 a12 (sX10_takeNumber_13 a11 a12 a13 a14 p1 p2) (sX10_takeNumber_14 a11 a12 a13 a14 p1 p2) (sX10_takeNumber_15 a11 a12 a13 a14 a15 p1 p2) (sX10_takeNumber_16 a11 a12 a14 a16) a17 a18 a19 a20 a21 a22 (upd a23 p0.toNatClampNeg (sX10_takeNumber_15 a11 a12 a13 a14 a15 p1 p2)) a24 a25 a26 a27 a28 a29 a30 a31 a32 a33 a34 a35 a36 a37 a38) 12 rfl (by first | with_reducible assumption | exact vin (b := 5) rfl (by grind) (by grind)) rfl dX10_into_15 ?_
  refine s_iload X (pc := 16) (x := rX10_takeNumber a11 a12 a13 a14 p1 p2) 0 dX10_into_16 rfl ?_
  exact s_iret X (pc := 18) (v := rX10_takeNumber a11 a12 a13 a14 p1 p2) dX10_into_18 rfl rfl

theorem iX10_into_at24_X10 : ∀ z ∈ wsX100, z ∈ wsX10_into := fun z h => List.mem_cons_of_mem _ (List.mem_append_right _ h)
theorem kX10_into_at24_124 : Cond.fieldLink RX10 124 "BathingCourtModel" (TX10 15).2.1 (TX10 15).2.2.1 ∈ wsX10_into := List.mem_of_getElem? (i := 1) rfl
set_option maxRecDepth 100000 in
set_option maxHeartbeats 4000000 in
theorem c_X10_into_at24 (l : Launch) (G : GT) (ad : Nat → Nat) (a0 : Int32) (a1 : Nat → Int32) (a2 : Int32) (a3 : Nat → Int32) (a4 : Int32) (a5 a6 a7 a8 a9 : Nat → Int32) (a10 : Int32) (a11 : Nat → Int32) (a12 a13 a14 a15 a16 a17 : Int32) (a18 : Nat → Int32) (a19 : Int32) (a20 : Nat → Int32) (a21 : Int32) (a22 a23 a24 a25 : Nat → Int32) (a26 : Int32) (a27 a28 a29 a30 : Nat → Int32) (a31 : Int32) (a32 a33 : Nat → Int32) (a34 : Int32) (a35 a36 a37 a38 : Nat → Int32) (p0 p1 p2 : Int32) (h0 : 0 ≤ a14) (hl : a12 ≤ 240) (hk : 0 ≤ p0) (hk2 : p0 < 5) : Ci l G yX10_into wsX10_into (rmL 2) [.ref (ad 0), .ref (ad 25), .int p0, .int p1, .int p2] (wX10 G ad a0 a1 a2 a3 a4 a5 a6 a7 a8 a9 a10 a11 a12 a13 a14 a15 a16 a17 a18 a19 a20 a21 a22 a23 a24 a25 a26 a27 a28 a29 a30 a31 a32 a33 a34 a35 a36 a37 a38) (rX10_takeNumber a11 a12 a13 a14 p1 p2) (wX10 G ad a0 a1 a2 a3 a4 a5 a6 a7 a8 a9 a10 a11 a12 (sX10_takeNumber_13 a11 a12 a13 a14 p1 p2) (sX10_takeNumber_14 a11 a12 a13 a14 p1 p2) (sX10_takeNumber_15 a11 a12 a13 a14 a15 p1 p2) (sX10_takeNumber_16 a11 a12 a14 a16) a17 a18 a19 a20 a21 a22 a23 (upd a24 p0.toNatClampNeg (sX10_takeNumber_15 a11 a12 a13 a14 a15 p1 p2)) a25 a26 a27 a28 a29 a30 a31 a32 a33 a34 a35 a36 a37 a38) := by
  refine ci_start .int (by decide) rfl rfl (Nat.le_of_ble_eq_true rfl) ?_
  intro p e s m args below meth c A X
  refine s_perm (lv2 := [(0, .ref (ad 0)), (1, .ref (ad 25)), (2, .int p0), (3, .int p1), (4, .int p2)]) [0, 1, 2, 3, 4] rfl ?_
  refine s_aload_n X (pc := 0) (x := (ad 0)) 0 dX10_into_0 rfl ?_
  refine s_iload_n X (pc := 1) (x := p1) 3 dX10_into_1 rfl ?_
  refine s_iload X (pc := 2) (x := p2) 4 dX10_into_2 rfl ?_
  refine s_callVi0 X (pc := 4) (r := rX10_takeNumber a11 a12 a13 a14 p1 p2) (w := wX10 G ad a0 a1 a2 a3 a4 a5 a6 a7 a8 a9 a10 a11 a12 a13 a14 a15 a16 a17 a18 a19 a20 a21 a22 a23 a24 a25 a26 a27 a28 a29 a30 a31 a32 a33 a34 a35 a36 a37 a38) (n := 2) (st := []) (As := [.int p1, .int p2]) (w2 := wX10 G ad a0 a1 a2 a3 a4 a5 a6 a7 a8 a9 a10 a11 a12 (sX10_takeNumber_13 a11 a12 a13 a14 p1 p2) (sX10_takeNumber_14 a11 a12 a13 a14 p1 p2) (sX10_takeNumber_15 a11 a12 a13 a14 a15 p1 p2) (sX10_takeNumber_16 a11 a12 a14 a16) a17 a18 a19 a20 a21 a22 a23 a24 a25 a26 a27 a28 a29 a30 a31 a32 a33 a34 a35 a36 a37 a38) 1 (c_X10_takeNumber l G ad a0 a1 a2 a3 a4 a5 a6 a7 a8 a9 a10 a11 a12 a13 a14 a15 a16 a17 a18 a19 a20 a21 a22 a23 a24 a25 a26 a27 a28 a29 a30 a31 a32 a33 a34 a35 a36 a37 a38 p1 p2 h0 hl) gX10_into_X10_takeNumber rfl (by decide +kernel) ⟨Nat.le_of_ble_eq_true rfl, Nat.le_of_ble_eq_true rfl⟩ 0 rfl rfl rfl rfl (Nat.le_of_ble_eq_true rfl) (Nat.zero_le _) (Nat.zero_le _) dX10_into_4 ?_
  refine s_istore X (pc := 7) (i := 5) (lv2 := [(5, .int (rX10_takeNumber a11 a12 a13 a14 p1 p2)), (0, .ref (ad 0)), (1, .ref (ad 25)), (2, .int p0), (3, .int p1), (4, .int p2)]) dX10_into_7 (by decide) rfl ?_
  refine s_aload_n X (pc := 9) (x := (ad 25)) 2 dX10_into_9 rfl ?_
  refine s_iload_n X (pc := 10) (x := p0) 3 dX10_into_10 rfl ?_
  refine s_aload_n X (pc := 11) (x := (ad 0)) 1 dX10_into_11 rfl ?_
  refine s_get X (pc := 12) (v := .int (sX10_takeNumber_15 a11 a12 a13 a14 a15 p1 p2)) iX10_into_at24_X10 0 rfl rfl 15 (by decide) kX10_into_at24_124 rfl rfl dX10_into_12 ?_
  refine s_iast X (pc := 15) (n := 5) (f := a24) (w2 := wX10 G ad a0 a1 a2 a3 a4 a5 a6 a7 a8 a9 a10 a11 a12 (sX10_takeNumber_13 a11 a12 a13 a14 p1 p2) (sX10_takeNumber_14 a11 a12 a13 a14 p1 p2) (sX10_takeNumber_15 a11 a12 a13 a14 a15 p1 p2) (sX10_takeNumber_16 a11 a12 a14 a16) a17 a18 a19 a20 a21 a22 a23 (upd a24 p0.toNatClampNeg (sX10_takeNumber_15 a11 a12 a13 a14 a15 p1 p2)) a25 a26 a27 a28 a29 a30 a31 a32 a33 a34 a35 a36 a37 a38) 13 rfl (by first | with_reducible assumption | exact vin (b := 5) rfl (by grind) (by grind)) rfl dX10_into_15 ?_
  refine s_iload X (pc := 16) (x := rX10_takeNumber a11 a12 a13 a14 p1 p2) 0 dX10_into_16 rfl ?_
  exact s_iret X (pc := 18) (v := rX10_takeNumber a11 a12 a13 a14 p1 p2) dX10_into_18 rfl rfl

theorem iX10_into_at25_X10 : ∀ z ∈ wsX100, z ∈ wsX10_into := fun z h => List.mem_cons_of_mem _ (List.mem_append_right _ h)
theorem kX10_into_at25_124 : Cond.fieldLink RX10 124 "BathingCourtModel" (TX10 15).2.1 (TX10 15).2.2.1 ∈ wsX10_into := List.mem_of_getElem? (i := 1) rfl
set_option maxRecDepth 100000 in
set_option maxHeartbeats 4000000 in
theorem c_X10_into_at25 (l : Launch) (G : GT) (ad : Nat → Nat) (a0 : Int32) (a1 : Nat → Int32) (a2 : Int32) (a3 : Nat → Int32) (a4 : Int32) (a5 a6 a7 a8 a9 : Nat → Int32) (a10 : Int32) (a11 : Nat → Int32) (a12 a13 a14 a15 a16 a17 : Int32) (a18 : Nat → Int32) (a19 : Int32) (a20 : Nat → Int32) (a21 : Int32) (a22 a23 a24 a25 : Nat → Int32) (a26 : Int32) (a27 a28 a29 a30 : Nat → Int32) (a31 : Int32) (a32 a33 : Nat → Int32) (a34 : Int32) (a35 a36 a37 a38 : Nat → Int32) (p0 p1 p2 : Int32) (h0 : 0 ≤ a14) (hl : a12 ≤ 240) (hk : 0 ≤ p0) (hk2 : p0 < 5) : Ci l G yX10_into wsX10_into (rmL 2) [.ref (ad 0), .ref (ad 26), .int p0, .int p1, .int p2] (wX10 G ad a0 a1 a2 a3 a4 a5 a6 a7 a8 a9 a10 a11 a12 a13 a14 a15 a16 a17 a18 a19 a20 a21 a22 a23 a24 a25 a26 a27 a28 a29 a30 a31 a32 a33 a34 a35 a36 a37 a38) (rX10_takeNumber a11 a12 a13 a14 p1 p2) (wX10 G ad a0 a1 a2 a3 a4 a5 a6 a7 a8 a9 a10 a11 a12 (sX10_takeNumber_13 a11 a12 a13 a14 p1 p2) (sX10_takeNumber_14 a11 a12 a13 a14 p1 p2) (sX10_takeNumber_15 a11 a12 a13 a14 a15 p1 p2) (sX10_takeNumber_16 a11 a12 a14 a16) a17 a18 a19 a20 a21 a22 a23 a24 (upd a25 p0.toNatClampNeg (sX10_takeNumber_15 a11 a12 a13 a14 a15 p1 p2)) a26 a27 a28 a29 a30 a31 a32 a33 a34 a35 a36 a37 a38) := by
  refine ci_start .int (by decide) rfl rfl (Nat.le_of_ble_eq_true rfl) ?_
  intro p e s m args below meth c A X
  refine s_perm (lv2 := [(0, .ref (ad 0)), (1, .ref (ad 26)), (2, .int p0), (3, .int p1), (4, .int p2)]) [0, 1, 2, 3, 4] rfl ?_
  refine s_aload_n X (pc := 0) (x := (ad 0)) 0 dX10_into_0 rfl ?_
  refine s_iload_n X (pc := 1) (x := p1) 3 dX10_into_1 rfl ?_
  refine s_iload X (pc := 2) (x := p2) 4 dX10_into_2 rfl ?_
  refine s_callVi0 X (pc := 4) (r := rX10_takeNumber a11 a12 a13 a14 p1 p2) (w := wX10 G ad a0 a1 a2 a3 a4 a5 a6 a7 a8 a9 a10 a11 a12 a13 a14 a15 a16 a17 a18 a19 a20 a21 a22 a23 a24 a25 a26 a27 a28 a29 a30 a31 a32 a33 a34 a35 a36 a37 a38) (n := 2) (st := []) (As := [.int p1, .int p2]) (w2 := wX10 G ad a0 a1 a2 a3 a4 a5 a6 a7 a8 a9 a10 a11 a12 (sX10_takeNumber_13 a11 a12 a13 a14 p1 p2) (sX10_takeNumber_14 a11 a12 a13 a14 p1 p2) (sX10_takeNumber_15 a11 a12 a13 a14 a15 p1 p2) (sX10_takeNumber_16 a11 a12 a14 a16) a17 a18 a19 a20 a21 a22 a23 a24 a25 a26 a27 a28 a29 a30 a31 a32 a33 a34 a35 a36 a37 a38) 1 (c_X10_takeNumber l G ad a0 a1 a2 a3 a4 a5 a6 a7 a8 a9 a10 a11 a12 a13 a14 a15 a16 a17 a18 a19 a20 a21 a22 a23 a24 a25 a26 a27 a28 a29 a30 a31 a32 a33 a34 a35 a36 a37 a38 p1 p2 h0 hl) gX10_into_X10_takeNumber rfl (by decide +kernel) ⟨Nat.le_of_ble_eq_true rfl, Nat.le_of_ble_eq_true rfl⟩ 0 rfl rfl rfl rfl (Nat.le_of_ble_eq_true rfl) (Nat.zero_le _) (Nat.zero_le _) dX10_into_4 ?_
  refine s_istore X (pc := 7) (i := 5) (lv2 := [(5, .int (rX10_takeNumber a11 a12 a13 a14 p1 p2)), (0, .ref (ad 0)), (1, .ref (ad 26)), (2, .int p0), (3, .int p1), (4, .int p2)]) dX10_into_7 (by decide) rfl ?_
  refine s_aload_n X (pc := 9) (x := (ad 26)) 2 dX10_into_9 rfl ?_
  refine s_iload_n X (pc := 10) (x := p0) 3 dX10_into_10 rfl ?_
  refine s_aload_n X (pc := 11) (x := (ad 0)) 1 dX10_into_11 rfl ?_
  refine s_get X (pc := 12) (v := .int (sX10_takeNumber_15 a11 a12 a13 a14 a15 p1 p2)) iX10_into_at25_X10 0 rfl rfl 15 (by decide) kX10_into_at25_124 rfl rfl dX10_into_12 ?_
  refine s_iast X (pc := 15) (n := 5) (f := a25) (w2 := wX10 G ad a0 a1 a2 a3 a4 a5 a6 a7 a8 a9 a10 a11 a12 (sX10_takeNumber_13 a11 a12 a13 a14 p1 p2) (sX10_takeNumber_14 a11 a12 a13 a14 p1 p2) (sX10_takeNumber_15 a11 a12 a13 a14 a15 p1 p2) (sX10_takeNumber_16 a11 a12 a14 a16) a17 a18 a19 a20 a21 a22 a23 a24 (upd a25 p0.toNatClampNeg (sX10_takeNumber_15 a11 a12 a13 a14 a15 p1 p2)) a26 a27 a28 a29 a30 a31 a32 a33 a34 a35 a36 a37 a38) 14 rfl (by first | with_reducible assumption | exact vin (b := 5) rfl (by grind) (by grind)) rfl dX10_into_15 ?_
  refine s_iload X (pc := 16) (x := rX10_takeNumber a11 a12 a13 a14 p1 p2) 0 dX10_into_16 rfl ?_
  exact s_iret X (pc := 18) (v := rX10_takeNumber a11 a12 a13 a14 p1 p2) dX10_into_18 rfl rfl
