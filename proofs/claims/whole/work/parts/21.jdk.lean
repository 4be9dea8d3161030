def aJ7_fill_53178_5 (fr : Nat → Int32) (p0 : Int32) : Nat → (Nat → Int32)
  | 0 => fr
  | k5 + 1 => upd (aJ7_fill_53178_5 fr p0 k5) (nI k5).toNatClampNeg p0
def sJ7_fill_53178_free_a (nr : Nat) (fr : Nat → Int32) (p0 : Int32) : Nat → Int32 := (aJ7_fill_53178_5 fr p0 nr)
set_option maxRecDepth 100000 in
set_option maxHeartbeats 4000000 in
theorem c_J7_fill_53178 (l : Launch) (G : GT) (ar : Nat) (nr : Nat) (fr : Nat → Int32) (p0 : Int32) (hn : nr ≤ 460) : Cv l G yJ7_fill_53178 wsJ7_fill_53178 (rmL 0) [.ref ar, .int p0] ([(ar, .inl (G.2.1, nr, .inl fr))]) ([(ar, .inl (G.2.1, nr, .inl (sJ7_fill_53178_free_a nr fr p0)))]) := by
  refine cv_start (by decide) rfl rfl (Nat.le_of_ble_eq_true rfl) ?_
  intro p e s m args below meth c A X
  refine s_perm (lv2 := [(0, .ref ar), (1, .int p0)]) [0, 1] rfl ?_
  refine s_iconst X (pc := 0) (v := 0) dJ7_fill_53178_0 (by decide) ?_
  refine s_istore_n X (pc := 1) (i := 2) (lv2 := [(2, .int (0 : Int32)), (0, .ref ar), (1, .int p0)]) dJ7_fill_53178_1 rfl (by decide) rfl ?_
  refine s_aload_n X (pc := 2) (x := ar) 1 dJ7_fill_53178_2 rfl ?_
  refine s_alen X (pc := 3) (n := nr) (f := fr) 0 rfl dJ7_fill_53178_3 ?_
  refine s_istore_n X (pc := 4) (i := 3) (lv2 := [(3, .int (nI nr)), (2, .int (0 : Int32)), (0, .ref ar), (1, .int p0)]) dJ7_fill_53178_4 rfl (by decide) rfl ?_
  refine s_perm (lv2 := [(0, .ref ar), (1, .int p0), (2, .int (0 : Int32)), (3, .int (nI nr))]) [2, 3, 1, 0] rfl ?_
  have L5 : ∀ (n5 k5 : Nat), k5 + n5 = nr → Sm p l e (rmL 0) s m args below meth c G A 4 0 0 (Qcv below G A args s ([(ar, .inl (G.2.1, nr, .inl (sJ7_fill_53178_free_a nr fr p0)))])) 5 [(0, .ref ar), (1, .int p0), (2, .int (nI k5)), (3, .int (nI nr))] [] ([(ar, .inl (G.2.1, nr, .inl (aJ7_fill_53178_5 fr p0 k5)))]) := by
    intro n5
    induction n5 with
    | zero =>
      intro k5 hk5
      have hK5 : k5 = nr := by omega
      rw [hK5]
      have tk5 : (nI nr).toInt = ((nr : Nat) : Int) := nI_toInt (by omega)
      have eN5 : (nI nr).toInt = ((nr : Nat) : Int) := nI_toInt (by omega)
      refine s_iload_n X (pc := 5) (x := nI nr) 2 dJ7_fill_53178_5 rfl ?_
      refine s_iload_n X (pc := 6) (x := nI nr) 3 dJ7_fill_53178_6 rfl ?_
      refine s_icmp_ge X (pc := 7) (tgt := 20) dJ7_fill_53178_7 (by decide) (fun c7 => ?_) (fun c7 => ?_)
      ·
        exact s_vret X (pc := 20) dJ7_fill_53178_20 (by rw [show sJ7_fill_53178_free_a nr fr p0 = (aJ7_fill_53178_5 fr p0 nr) from rfl])
      ·
        exact absurd ((t_le eN5 tk5).mpr (by omega)) c7
    | succ n5 ih5 =>
      intro k5 hk5
      have hlt5 : k5 < nr := by omega
      have tk5 : (nI k5).toInt = ((k5 : Nat) : Int) := nI_toInt (by omega)
      have eN5 : (nI nr).toInt = ((nr : Nat) : Int) := nI_toInt (by omega)
      refine s_iload_n X (pc := 5) (x := nI k5) 2 dJ7_fill_53178_5 rfl ?_
      refine s_iload_n X (pc := 6) (x := nI nr) 3 dJ7_fill_53178_6 rfl ?_
      refine s_icmp_ge X (pc := 7) (tgt := 20) dJ7_fill_53178_7 (by decide) (fun c7 => ?_) (fun c7 => ?_)
      ·
        exact absurd ((t_le eN5 tk5).mp c7) (by omega)
      ·
        refine s_aload_n X (pc := 10) (x := ar) 0 dJ7_fill_53178_10 rfl ?_
        refine s_iload_n X (pc := 11) (x := nI k5) 2 dJ7_fill_53178_11 rfl ?_
        refine s_iload_n X (pc := 12) (x := p0) 1 dJ7_fill_53178_12 rfl ?_
        refine s_iast X (pc := 13) (n := nr) (f := (aJ7_fill_53178_5 fr p0 k5)) (w2 := [(ar, .inl (G.2.1, nr, .inl (upd (aJ7_fill_53178_5 fr p0 k5) (nI k5).toNatClampNeg p0)))]) 0 rfl (vp_in_nI (by omega) (by omega)) rfl dJ7_fill_53178_13 ?_
        refine s_iinc X (pc := 14) (v := nI (k5 + 1)) (lv2 := [(2, .int (nI (k5 + 1))), (0, .ref ar), (1, .int p0), (3, .int (nI nr))]) 2 dJ7_fill_53178_14 rfl (nI_1 _) (by decide) rfl ?_
        refine s_goto X (pc := 17) (tgt := 5) dJ7_fill_53178_17 (by decide) ?_
        refine s_perm (lv2 := [(0, .ref ar), (1, .int p0), (2, .int (nI (k5 + 1))), (3, .int (nI nr))]) [1, 2, 0, 3] rfl ?_
        have hb5 : (aJ7_fill_53178_5 fr p0 (k5 + 1)) = upd (aJ7_fill_53178_5 fr p0 k5) (nI k5).toNatClampNeg p0 := rfl
        refine s_cast (lv2 := [(0, .ref ar), (1, .int p0), (2, .int (nI (k5 + 1))), (3, .int (nI nr))]) (w2 := [(ar, .inl (G.2.1, nr, .inl (aJ7_fill_53178_5 fr p0 (k5 + 1))))]) (by first | (rw [hb5]; done) | rfl) (by first | (rw [hb5]; done) | rfl) ?_
        exact ih5 (k5 + 1) (by omega)
  exact L5 nr 0 (Nat.zero_add _)

theorem kJ6_bitCount_0f7a4_c265 : Jvm.Cond.constant RJ6 265 (1431655765) ∈ wsJ6_bitCount_0f7a4 := List.mem_of_getElem? (i := 1) rfl
theorem kJ6_bitCount_0f7a4_c266 : Jvm.Cond.constant RJ6 266 (858993459) ∈ wsJ6_bitCount_0f7a4 := List.mem_of_getElem? (i := 2) rfl
theorem kJ6_bitCount_0f7a4_c267 : Jvm.Cond.constant RJ6 267 (252645135) ∈ wsJ6_bitCount_0f7a4 := List.mem_of_getElem? (i := 3) rfl
def mJ6_bitCount_0f7a4_9 (p0 : Int32) : Int32 := p0 - (((p0.toUInt32 >>> ((1 : Int32).toUInt32 &&& Int32.toUInt32 31)).toInt32) &&& (1431655765 : Int32))
def mJ6_bitCount_0f7a4_23 (p0 : Int32) : Int32 := ((mJ6_bitCount_0f7a4_9 p0) &&& (858993459 : Int32)) + ((((mJ6_bitCount_0f7a4_9 p0).toUInt32 >>> ((2 : Int32).toUInt32 &&& Int32.toUInt32 31)).toInt32) &&& (858993459 : Int32))
def mJ6_bitCount_0f7a4_33 (p0 : Int32) : Int32 := ((mJ6_bitCount_0f7a4_23 p0) + (((mJ6_bitCount_0f7a4_23 p0).toUInt32 >>> ((4 : Int32).toUInt32 &&& Int32.toUInt32 31)).toInt32)) &&& (252645135 : Int32)
def mJ6_bitCount_0f7a4_40 (p0 : Int32) : Int32 := (mJ6_bitCount_0f7a4_33 p0) + (((mJ6_bitCount_0f7a4_33 p0).toUInt32 >>> ((8 : Int32).toUInt32 &&& Int32.toUInt32 31)).toInt32)
def mJ6_bitCount_0f7a4_47 (p0 : Int32) : Int32 := (mJ6_bitCount_0f7a4_40 p0) + (((mJ6_bitCount_0f7a4_40 p0).toUInt32 >>> ((16 : Int32).toUInt32 &&& Int32.toUInt32 31)).toInt32)
def rJ6_bitCount_0f7a4 (p0 : Int32) : Int32 := (mJ6_bitCount_0f7a4_47 p0) &&& (63 : Int32)
set_option maxRecDepth 100000 in
set_option maxHeartbeats 4000000 in
theorem c_J6_bitCount_0f7a4 (l : Launch) (G : GT) (p0 : Int32) : Ci l G yJ6_bitCount_0f7a4 wsJ6_bitCount_0f7a4 (rmL 0) [.int p0] ([]) (rJ6_bitCount_0f7a4 p0) ([]) := by
  refine ci_start .int (by decide) rfl rfl (Nat.le_of_ble_eq_true rfl) ?_
  intro p e s m args below meth c A X
  refine s_perm (lv2 := [(0, .int p0)]) [0] rfl ?_
  refine s_iload_n X (pc := 0) (x := p0) 0 dJ6_bitCount_0f7a4_0 rfl ?_
  refine s_iload_n X (pc := 1) (x := p0) 0 dJ6_bitCount_0f7a4_1 rfl ?_
  refine s_iconst X (pc := 2) (v := 1) dJ6_bitCount_0f7a4_2 (by decide) ?_
  refine s_iushr X (pc := 3) dJ6_bitCount_0f7a4_3 rfl ?_
  refine s_ldcw X (pc := 4) (v := 1431655765) kJ6_bitCount_0f7a4_c265 dJ6_bitCount_0f7a4_4 ?_
  refine s_iand X (pc := 7) dJ6_bitCount_0f7a4_7 ?_
  refine s_isub X (pc := 8) dJ6_bitCount_0f7a4_8 ?_
  refine s_istore_n X (pc := 9) (i := 0) (lv2 := [(0, .int (mJ6_bitCount_0f7a4_9 p0))]) dJ6_bitCount_0f7a4_9 rfl (by decide) rfl ?_
  refine s_iload_n X (pc := 10) (x := mJ6_bitCount_0f7a4_9 p0) 0 dJ6_bitCount_0f7a4_10 rfl ?_
  refine s_ldcw X (pc := 11) (v := 858993459) kJ6_bitCount_0f7a4_c266 dJ6_bitCount_0f7a4_11 ?_
  refine s_iand X (pc := 14) dJ6_bitCount_0f7a4_14 ?_
  refine s_iload_n X (pc := 15) (x := mJ6_bitCount_0f7a4_9 p0) 0 dJ6_bitCount_0f7a4_15 rfl ?_
  refine s_iconst X (pc := 16) (v := 2) dJ6_bitCount_0f7a4_16 (by decide) ?_
  refine s_iushr X (pc := 17) dJ6_bitCount_0f7a4_17 rfl ?_
  refine s_ldcw X (pc := 18) (v := 858993459) kJ6_bitCount_0f7a4_c266 dJ6_bitCount_0f7a4_18 ?_
  refine s_iand X (pc := 21) dJ6_bitCount_0f7a4_21 ?_
  refine s_iadd X (pc := 22) dJ6_bitCount_0f7a4_22 ?_
  refine s_istore_n X (pc := 23) (i := 0) (lv2 := [(0, .int (mJ6_bitCount_0f7a4_23 p0))]) dJ6_bitCount_0f7a4_23 rfl (by decide) rfl ?_
  refine s_iload_n X (pc := 24) (x := mJ6_bitCount_0f7a4_23 p0) 0 dJ6_bitCount_0f7a4_24 rfl ?_
  refine s_iload_n X (pc := 25) (x := mJ6_bitCount_0f7a4_23 p0) 0 dJ6_bitCount_0f7a4_25 rfl ?_
  refine s_iconst X (pc := 26) (v := 4) dJ6_bitCount_0f7a4_26 (by decide) ?_
  refine s_iushr X (pc := 27) dJ6_bitCount_0f7a4_27 rfl ?_
  refine s_iadd X (pc := 28) dJ6_bitCount_0f7a4_28 ?_
  refine s_ldcw X (pc := 29) (v := 252645135) kJ6_bitCount_0f7a4_c267 dJ6_bitCount_0f7a4_29 ?_
  refine s_iand X (pc := 32) dJ6_bitCount_0f7a4_32 ?_
  refine s_istore_n X (pc := 33) (i := 0) (lv2 := [(0, .int (mJ6_bitCount_0f7a4_33 p0))]) dJ6_bitCount_0f7a4_33 rfl (by decide) rfl ?_
  refine s_iload_n X (pc := 34) (x := mJ6_bitCount_0f7a4_33 p0) 0 dJ6_bitCount_0f7a4_34 rfl ?_
  refine s_iload_n X (pc := 35) (x := mJ6_bitCount_0f7a4_33 p0) 0 dJ6_bitCount_0f7a4_35 rfl ?_
  refine s_bipush X (pc := 36) (v := 8) dJ6_bitCount_0f7a4_36 (by decide) ?_
  refine s_iushr X (pc := 38) dJ6_bitCount_0f7a4_38 rfl ?_
  refine s_iadd X (pc := 39) dJ6_bitCount_0f7a4_39 ?_
  refine s_istore_n X (pc := 40) (i := 0) (lv2 := [(0, .int (mJ6_bitCount_0f7a4_40 p0))]) dJ6_bitCount_0f7a4_40 rfl (by decide) rfl ?_
  refine s_iload_n X (pc := 41) (x := mJ6_bitCount_0f7a4_40 p0) 0 dJ6_bitCount_0f7a4_41 rfl ?_
  refine s_iload_n X (pc := 42) (x := mJ6_bitCount_0f7a4_40 p0) 0 dJ6_bitCount_0f7a4_42 rfl ?_
  refine s_bipush X (pc := 43) (v := 16) dJ6_bitCount_0f7a4_43 (by decide) ?_
  refine s_iushr X (pc := 45) dJ6_bitCount_0f7a4_45 rfl ?_
  refine s_iadd X (pc := 46) dJ6_bitCount_0f7a4_46 ?_
  refine s_istore_n X (pc := 47) (i := 0) (lv2 := [(0, .int (mJ6_bitCount_0f7a4_47 p0))]) dJ6_bitCount_0f7a4_47 rfl (by decide) rfl ?_
  refine s_iload_n X (pc := 48) (x := mJ6_bitCount_0f7a4_47 p0) 0 dJ6_bitCount_0f7a4_48 rfl ?_
  refine s_bipush X (pc := 49) (v := 63) dJ6_bitCount_0f7a4_49 (by decide) ?_
  refine s_iand X (pc := 51) dJ6_bitCount_0f7a4_51 ?_
  exact s_iret X (pc := 52) (v := (mJ6_bitCount_0f7a4_47 p0) &&& (63 : Int32)) dJ6_bitCount_0f7a4_52 rfl rfl

theorem kJ6_numberOfTrailingZeros_0f7a4_c264 : Jvm.Cond.constant RJ6 264 (65536) ∈ wsJ6_numberOfTrailingZeros_0f7a4 := List.mem_of_getElem? (i := 1) rfl
def mJ6_numberOfTrailingZeros_0f7a4_7 (p0 : Int32) : Int32 := (p0 ^^^ (-1 : Int32)) &&& (p0 - (1 : Int32))
def rJ6_numberOfTrailingZeros_0f7a4 (p0 : Int32) : Int32 := if 0 < (mJ6_numberOfTrailingZeros_0f7a4_7 p0) then (if (mJ6_numberOfTrailingZeros_0f7a4_7 p0) ≤ (65536 : Int32) then (if (mJ6_numberOfTrailingZeros_0f7a4_7 p0) ≤ (256 : Int32) then (if (mJ6_numberOfTrailingZeros_0f7a4_7 p0) ≤ (16 : Int32) then (if (mJ6_numberOfTrailingZeros_0f7a4_7 p0) ≤ (4 : Int32) then ((1 : Int32) + (((mJ6_numberOfTrailingZeros_0f7a4_7 p0).toUInt32 >>> ((1 : Int32).toUInt32 &&& Int32.toUInt32 31)).toInt32)) else (((1 : Int32) + (2 : Int32)) + (((((mJ6_numberOfTrailingZeros_0f7a4_7 p0).toUInt32 >>> ((2 : Int32).toUInt32 &&& Int32.toUInt32 31)).toInt32).toUInt32 >>> ((1 : Int32).toUInt32 &&& Int32.toUInt32 31)).toInt32))) else (if (((mJ6_numberOfTrailingZeros_0f7a4_7 p0).toUInt32 >>> ((4 : Int32).toUInt32 &&& Int32.toUInt32 31)).toInt32) ≤ (4 : Int32) then (((1 : Int32) + (4 : Int32)) + (((((mJ6_numberOfTrailingZeros_0f7a4_7 p0).toUInt32 >>> ((4 : Int32).toUInt32 &&& Int32.toUInt32 31)).toInt32).toUInt32 >>> ((1 : Int32).toUInt32 &&& Int32.toUInt32 31)).toInt32)) else ((((1 : Int32) + (4 : Int32)) + (2 : Int32)) + (((((((mJ6_numberOfTrailingZeros_0f7a4_7 p0).toUInt32 >>> ((4 : Int32).toUInt32 &&& Int32.toUInt32 31)).toInt32).toUInt32 >>> ((2 : Int32).toUInt32 &&& Int32.toUInt32 31)).toInt32).toUInt32 >>> ((1 : Int32).toUInt32 &&& Int32.toUInt32 31)).toInt32)))) else (if (((mJ6_numberOfTrailingZeros_0f7a4_7 p0).toUInt32 >>> ((8 : Int32).toUInt32 &&& Int32.toUInt32 31)).toInt32) ≤ (16 : Int32) then (if (((mJ6_numberOfTrailingZeros_0f7a4_7 p0).toUInt32 >>> ((8 : Int32).toUInt32 &&& Int32.toUInt32 31)).toInt32) ≤ (4 : Int32) then (((1 : Int32) + (8 : Int32)) + (((((mJ6_numberOfTrailingZeros_0f7a4_7 p0).toUInt32 >>> ((8 : Int32).toUInt32 &&& Int32.toUInt32 31)).toInt32).toUInt32 >>> ((1 : Int32).toUInt32 &&& Int32.toUInt32 31)).toInt32)) else ((((1 : Int32) + (8 : Int32)) + (2 : Int32)) + (((((((mJ6_numberOfTrailingZeros_0f7a4_7 p0).toUInt32 >>> ((8 : Int32).toUInt32 &&& Int32.toUInt32 31)).toInt32).toUInt32 >>> ((2 : Int32).toUInt32 &&& Int32.toUInt32 31)).toInt32).toUInt32 >>> ((1 : Int32).toUInt32 &&& Int32.toUInt32 31)).toInt32))) else (if (((((mJ6_numberOfTrailingZeros_0f7a4_7 p0).toUInt32 >>> ((8 : Int32).toUInt32 &&& Int32.toUInt32 31)).toInt32).toUInt32 >>> ((4 : Int32).toUInt32 &&& Int32.toUInt32 31)).toInt32) ≤ (4 : Int32) then ((((1 : Int32) + (8 : Int32)) + (4 : Int32)) + (((((((mJ6_numberOfTrailingZeros_0f7a4_7 p0).toUInt32 >>> ((8 : Int32).toUInt32 &&& Int32.toUInt32 31)).toInt32).toUInt32 >>> ((4 : Int32).toUInt32 &&& Int32.toUInt32 31)).toInt32).toUInt32 >>> ((1 : Int32).toUInt32 &&& Int32.toUInt32 31)).toInt32)) else (((((1 : Int32) + (8 : Int32)) + (4 : Int32)) + (2 : Int32)) + (((((((((mJ6_numberOfTrailingZeros_0f7a4_7 p0).toUInt32 >>> ((8 : Int32).toUInt32 &&& Int32.toUInt32 31)).toInt32).toUInt32 >>> ((4 : Int32).toUInt32 &&& Int32.toUInt32 31)).toInt32).toUInt32 >>> ((2 : Int32).toUInt32 &&& Int32.toUInt32 31)).toInt32).toUInt32 >>> ((1 : Int32).toUInt32 &&& Int32.toUInt32 31)).toInt32))))) else (if (((mJ6_numberOfTrailingZeros_0f7a4_7 p0).toUInt32 >>> ((16 : Int32).toUInt32 &&& Int32.toUInt32 31)).toInt32) ≤ (256 : Int32) then (if (((mJ6_numberOfTrailingZeros_0f7a4_7 p0).toUInt32 >>> ((16 : Int32).toUInt32 &&& Int32.toUInt32 31)).toInt32) ≤ (16 : Int32) then (if (((mJ6_numberOfTrailingZeros_0f7a4_7 p0).toUInt32 >>> ((16 : Int32).toUInt32 &&& Int32.toUInt32 31)).toInt32) ≤ (4 : Int32) then (((1 : Int32) + (16 : Int32)) + (((((mJ6_numberOfTrailingZeros_0f7a4_7 p0).toUInt32 >>> ((16 : Int32).toUInt32 &&& Int32.toUInt32 31)).toInt32).toUInt32 >>> ((1 : Int32).toUInt32 &&& Int32.toUInt32 31)).toInt32)) else ((((1 : Int32) + (16 : Int32)) + (2 : Int32)) + (((((((mJ6_numberOfTrailingZeros_0f7a4_7 p0).toUInt32 >>> ((16 : Int32).toUInt32 &&& Int32.toUInt32 31)).toInt32).toUInt32 >>> ((2 : Int32).toUInt32 &&& Int32.toUInt32 31)).toInt32).toUInt32 >>> ((1 : Int32).toUInt32 &&& Int32.toUInt32 31)).toInt32))) else (if (((((mJ6_numberOfTrailingZeros_0f7a4_7 p0).toUInt32 >>> ((16 : Int32).toUInt32 &&& Int32.toUInt32 31)).toInt32).toUInt32 >>> ((4 : Int32).toUInt32 &&& Int32.toUInt32 31)).toInt32) ≤ (4 : Int32) then ((((1 : Int32) + (16 : Int32)) + (4 : Int32)) + (((((((mJ6_numberOfTrailingZeros_0f7a4_7 p0).toUInt32 >>> ((16 : Int32).toUInt32 &&& Int32.toUInt32 31)).toInt32).toUInt32 >>> ((4 : Int32).toUInt32 &&& Int32.toUInt32 31)).toInt32).toUInt32 >>> ((1 : Int32).toUInt32 &&& Int32.toUInt32 31)).toInt32)) else (((((1 : Int32) + (16 : Int32)) + (4 : Int32)) + (2 : Int32)) + (((((((((mJ6_numberOfTrailingZeros_0f7a4_7 p0).toUInt32 >>> ((16 : Int32).toUInt32 &&& Int32.toUInt32 31)).toInt32).toUInt32 >>> ((4 : Int32).toUInt32 &&& Int32.toUInt32 31)).toInt32).toUInt32 >>> ((2 : Int32).toUInt32 &&& Int32.toUInt32 31)).toInt32).toUInt32 >>> ((1 : Int32).toUInt32 &&& Int32.toUInt32 31)).toInt32)))) else (if (((((mJ6_numberOfTrailingZeros_0f7a4_7 p0).toUInt32 >>> ((16 : Int32).toUInt32 &&& Int32.toUInt32 31)).toInt32).toUInt32 >>> ((8 : Int32).toUInt32 &&& Int32.toUInt32 31)).toInt32) ≤ (16 : Int32) then (if (((((mJ6_numberOfTrailingZeros_0f7a4_7 p0).toUInt32 >>> ((16 : Int32).toUInt32 &&& Int32.toUInt32 31)).toInt32).toUInt32 >>> ((8 : Int32).toUInt32 &&& Int32.toUInt32 31)).toInt32) ≤ (4 : Int32) then ((((1 : Int32) + (16 : Int32)) + (8 : Int32)) + (((((((mJ6_numberOfTrailingZeros_0f7a4_7 p0).toUInt32 >>> ((16 : Int32).toUInt32 &&& Int32.toUInt32 31)).toInt32).toUInt32 >>> ((8 : Int32).toUInt32 &&& Int32.toUInt32 31)).toInt32).toUInt32 >>> ((1 : Int32).toUInt32 &&& Int32.toUInt32 31)).toInt32)) else (((((1 : Int32) + (16 : Int32)) + (8 : Int32)) + (2 : Int32)) + (((((((((mJ6_numberOfTrailingZeros_0f7a4_7 p0).toUInt32 >>> ((16 : Int32).toUInt32 &&& Int32.toUInt32 31)).toInt32).toUInt32 >>> ((8 : Int32).toUInt32 &&& Int32.toUInt32 31)).toInt32).toUInt32 >>> ((2 : Int32).toUInt32 &&& Int32.toUInt32 31)).toInt32).toUInt32 >>> ((1 : Int32).toUInt32 &&& Int32.toUInt32 31)).toInt32))) else (if (((((((mJ6_numberOfTrailingZeros_0f7a4_7 p0).toUInt32 >>> ((16 : Int32).toUInt32 &&& Int32.toUInt32 31)).toInt32).toUInt32 >>> ((8 : Int32).toUInt32 &&& Int32.toUInt32 31)).toInt32).toUInt32 >>> ((4 : Int32).toUInt32 &&& Int32.toUInt32 31)).toInt32) ≤ (4 : Int32) then (((((1 : Int32) + (16 : Int32)) + (8 : Int32)) + (4 : Int32)) + (((((((((mJ6_numberOfTrailingZeros_0f7a4_7 p0).toUInt32 >>> ((16 : Int32).toUInt32 &&& Int32.toUInt32 31)).toInt32).toUInt32 >>> ((8 : Int32).toUInt32 &&& Int32.toUInt32 31)).toInt32).toUInt32 >>> ((4 : Int32).toUInt32 &&& Int32.toUInt32 31)).toInt32).toUInt32 >>> ((1 : Int32).toUInt32 &&& Int32.toUInt32 31)).toInt32)) else ((((((1 : Int32) + (16 : Int32)) + (8 : Int32)) + (4 : Int32)) + (2 : Int32)) + (((((((((((mJ6_numberOfTrailingZeros_0f7a4_7 p0).toUInt32 >>> ((16 : Int32).toUInt32 &&& Int32.toUInt32 31)).toInt32).toUInt32 >>> ((8 : Int32).toUInt32 &&& Int32.toUInt32 31)).toInt32).toUInt32 >>> ((4 : Int32).toUInt32 &&& Int32.toUInt32 31)).toInt32).toUInt32 >>> ((2 : Int32).toUInt32 &&& Int32.toUInt32 31)).toInt32).toUInt32 >>> ((1 : Int32).toUInt32 &&& Int32.toUInt32 31)).toInt32)))))) else ((mJ6_numberOfTrailingZeros_0f7a4_7 p0) &&& (32 : Int32))
set_option maxRecDepth 100000 in
set_option maxHeartbeats 4000000 in
theorem c_J6_numberOfTrailingZeros_0f7a4 (l : Launch) (G : GT) (p0 : Int32) : Ci l G yJ6_numberOfTrailingZeros_0f7a4 wsJ6_numberOfTrailingZeros_0f7a4 (rmL 0) [.int p0] ([]) (rJ6_numberOfTrailingZeros_0f7a4 p0) ([]) := by
  refine ci_start .int (by decide) rfl rfl (Nat.le_of_ble_eq_true rfl) ?_
  intro p e s m args below meth c A X
  refine s_perm (lv2 := [(0, .int p0)]) [0] rfl ?_
  refine s_iload_n X (pc := 0) (x := p0) 0 dJ6_numberOfTrailingZeros_0f7a4_0 rfl ?_
  refine s_iconst X (pc := 1) (v := -1) dJ6_numberOfTrailingZeros_0f7a4_1 (by decide) ?_
  refine s_ixor X (pc := 2) dJ6_numberOfTrailingZeros_0f7a4_2 ?_
  refine s_iload_n X (pc := 3) (x := p0) 0 dJ6_numberOfTrailingZeros_0f7a4_3 rfl ?_
  refine s_iconst X (pc := 4) (v := 1) dJ6_numberOfTrailingZeros_0f7a4_4 (by decide) ?_
  refine s_isub X (pc := 5) dJ6_numberOfTrailingZeros_0f7a4_5 ?_
  refine s_iand X (pc := 6) dJ6_numberOfTrailingZeros_0f7a4_6 ?_
  refine s_istore_n X (pc := 7) (i := 0) (lv2 := [(0, .int (mJ6_numberOfTrailingZeros_0f7a4_7 p0))]) dJ6_numberOfTrailingZeros_0f7a4_7 rfl (by decide) rfl ?_
  refine s_iload_n X (pc := 8) (x := mJ6_numberOfTrailingZeros_0f7a4_7 p0) 0 dJ6_numberOfTrailingZeros_0f7a4_8 rfl ?_
  refine s_if_gt X (pc := 9) (tgt := 17) dJ6_numberOfTrailingZeros_0f7a4_9 (by decide) (fun c9 => ?_) (fun c9 => ?_)
  ·
    refine s_iconst X (pc := 17) (v := 1) dJ6_numberOfTrailingZeros_0f7a4_17 (by decide) ?_
    refine s_istore_n X (pc := 18) (i := 1) (lv2 := [(1, .int (1 : Int32)), (0, .int (mJ6_numberOfTrailingZeros_0f7a4_7 p0))]) dJ6_numberOfTrailingZeros_0f7a4_18 rfl (by decide) rfl ?_
    refine s_iload_n X (pc := 19) (x := mJ6_numberOfTrailingZeros_0f7a4_7 p0) 1 dJ6_numberOfTrailingZeros_0f7a4_19 rfl ?_
    refine s_ldcw X (pc := 20) (v := 65536) kJ6_numberOfTrailingZeros_0f7a4_c264 dJ6_numberOfTrailingZeros_0f7a4_20 ?_
    refine s_icmp_le X (pc := 23) (tgt := 34) dJ6_numberOfTrailingZeros_0f7a4_23 (by decide) (fun c23 => ?_) (fun c23 => ?_)
    ·
      refine s_iload_n X (pc := 34) (x := mJ6_numberOfTrailingZeros_0f7a4_7 p0) 1 dJ6_numberOfTrailingZeros_0f7a4_34 rfl ?_
      refine s_sipush X (pc := 35) (v := 256) dJ6_numberOfTrailingZeros_0f7a4_35 (by decide) ?_
      refine s_icmp_le X (pc := 38) (tgt := 49) dJ6_numberOfTrailingZeros_0f7a4_38 (by decide) (fun c38 => ?_) (fun c38 => ?_)
      ·
        refine s_iload_n X (pc := 49) (x := mJ6_numberOfTrailingZeros_0f7a4_7 p0) 1 dJ6_numberOfTrailingZeros_0f7a4_49 rfl ?_
        refine s_bipush X (pc := 50) (v := 16) dJ6_numberOfTrailingZeros_0f7a4_50 (by decide) ?_
        refine s_icmp_le X (pc := 52) (tgt := 62) dJ6_numberOfTrailingZeros_0f7a4_52 (by decide) (fun c52 => ?_) (fun c52 => ?_)
        ·
          refine s_iload_n X (pc := 62) (x := mJ6_numberOfTrailingZeros_0f7a4_7 p0) 1 dJ6_numberOfTrailingZeros_0f7a4_62 rfl ?_
          refine s_iconst X (pc := 63) (v := 4) dJ6_numberOfTrailingZeros_0f7a4_63 (by decide) ?_
          refine s_icmp_le X (pc := 64) (tgt := 74) dJ6_numberOfTrailingZeros_0f7a4_64 (by decide) (fun c64 => ?_) (fun c64 => ?_)
          ·
            refine s_iload_n X (pc := 74) (x := (1 : Int32)) 0 dJ6_numberOfTrailingZeros_0f7a4_74 rfl ?_
            refine s_iload_n X (pc := 75) (x := mJ6_numberOfTrailingZeros_0f7a4_7 p0) 1 dJ6_numberOfTrailingZeros_0f7a4_75 rfl ?_
            refine s_iconst X (pc := 76) (v := 1) dJ6_numberOfTrailingZeros_0f7a4_76 (by decide) ?_
            refine s_iushr X (pc := 77) dJ6_numberOfTrailingZeros_0f7a4_77 rfl ?_
            refine s_iadd X (pc := 78) dJ6_numberOfTrailingZeros_0f7a4_78 ?_
            exact s_iret X (pc := 79) (v := (1 : Int32) + (((mJ6_numberOfTrailingZeros_0f7a4_7 p0).toUInt32 >>> ((1 : Int32).toUInt32 &&& Int32.toUInt32 31)).toInt32)) dJ6_numberOfTrailingZeros_0f7a4_79 (Eq.symm (show rJ6_numberOfTrailingZeros_0f7a4 p0 = (1 : Int32) + (((mJ6_numberOfTrailingZeros_0f7a4_7 p0).toUInt32 >>> ((1 : Int32).toUInt32 &&& Int32.toUInt32 31)).toInt32) from (by unfold rJ6_numberOfTrailingZeros_0f7a4; exact ((if_pos c9).trans ((if_pos c23).trans ((if_pos c38).trans ((if_pos c52).trans (if_pos c64)))))))) rfl
          ·
            refine s_iinc X (pc := 67) (v := (1 : Int32) + (2 : Int32)) (lv2 := [(1, .int ((1 : Int32) + (2 : Int32))), (0, .int (mJ6_numberOfTrailingZeros_0f7a4_7 p0))]) 0 dJ6_numberOfTrailingZeros_0f7a4_67 rfl rfl (by decide) rfl ?_
            refine s_iload_n X (pc := 70) (x := mJ6_numberOfTrailingZeros_0f7a4_7 p0) 1 dJ6_numberOfTrailingZeros_0f7a4_70 rfl ?_
            refine s_iconst X (pc := 71) (v := 2) dJ6_numberOfTrailingZeros_0f7a4_71 (by decide) ?_
            refine s_iushr X (pc := 72) dJ6_numberOfTrailingZeros_0f7a4_72 rfl ?_
            refine s_istore_n X (pc := 73) (i := 0) (lv2 := [(0, .int (((mJ6_numberOfTrailingZeros_0f7a4_7 p0).toUInt32 >>> ((2 : Int32).toUInt32 &&& Int32.toUInt32 31)).toInt32)), (1, .int ((1 : Int32) + (2 : Int32)))]) dJ6_numberOfTrailingZeros_0f7a4_73 rfl (by decide) rfl ?_
            refine s_iload_n X (pc := 74) (x := (1 : Int32) + (2 : Int32)) 1 dJ6_numberOfTrailingZeros_0f7a4_74 rfl ?_
            refine s_iload_n X (pc := 75) (x := ((mJ6_numberOfTrailingZeros_0f7a4_7 p0).toUInt32 >>> ((2 : Int32).toUInt32 &&& Int32.toUInt32 31)).toInt32) 0 dJ6_numberOfTrailingZeros_0f7a4_75 rfl ?_
            refine s_iconst X (pc := 76) (v := 1) dJ6_numberOfTrailingZeros_0f7a4_76 (by decide) ?_
            refine s_iushr X (pc := 77) dJ6_numberOfTrailingZeros_0f7a4_77 rfl ?_
            refine s_iadd X (pc := 78) dJ6_numberOfTrailingZeros_0f7a4_78 ?_
            exact s_iret X (pc := 79) (v := ((1 : Int32) + (2 : Int32)) + (((((mJ6_numberOfTrailingZeros_0f7a4_7 p0).toUInt32 >>> ((2 : Int32).toUInt32 &&& Int32.toUInt32 31)).toInt32).toUInt32 >>> ((1 : Int32).toUInt32 &&& Int32.toUInt32 31)).toInt32)) dJ6_numberOfTrailingZeros_0f7a4_79 (Eq.symm (show rJ6_numberOfTrailingZeros_0f7a4 p0 = ((1 : Int32) + (2 : Int32)) + (((((mJ6_numberOfTrailingZeros_0f7a4_7 p0).toUInt32 >>> ((2 : Int32).toUInt32 &&& Int32.toUInt32 31)).toInt32).toUInt32 >>> ((1 : Int32).toUInt32 &&& Int32.toUInt32 31)).toInt32) from (by unfold rJ6_numberOfTrailingZeros_0f7a4; exact ((if_pos c9).trans ((if_pos c23).trans ((if_pos c38).trans ((if_pos c52).trans (if_neg c64)))))))) rfl
        ·
          refine s_iinc X (pc := 55) (v := (1 : Int32) + (4 : Int32)) (lv2 := [(1, .int ((1 : Int32) + (4 : Int32))), (0, .int (mJ6_numberOfTrailingZeros_0f7a4_7 p0))]) 0 dJ6_numberOfTrailingZeros_0f7a4_55 rfl rfl (by decide) rfl ?_
          refine s_iload_n X (pc := 58) (x := mJ6_numberOfTrailingZeros_0f7a4_7 p0) 1 dJ6_numberOfTrailingZeros_0f7a4_58 rfl ?_
          refine s_iconst X (pc := 59) (v := 4) dJ6_numberOfTrailingZeros_0f7a4_59 (by decide) ?_
          refine s_iushr X (pc := 60) dJ6_numberOfTrailingZeros_0f7a4_60 rfl ?_
          refine s_istore_n X (pc := 61) (i := 0) (lv2 := [(0, .int (((mJ6_numberOfTrailingZeros_0f7a4_7 p0).toUInt32 >>> ((4 : Int32).toUInt32 &&& Int32.toUInt32 31)).toInt32)), (1, .int ((1 : Int32) + (4 : Int32)))]) dJ6_numberOfTrailingZeros_0f7a4_61 rfl (by decide) rfl ?_
          refine s_iload_n X (pc := 62) (x := ((mJ6_numberOfTrailingZeros_0f7a4_7 p0).toUInt32 >>> ((4 : Int32).toUInt32 &&& Int32.toUInt32 31)).toInt32) 0 dJ6_numberOfTrailingZeros_0f7a4_62 rfl ?_
          refine s_iconst X (pc := 63) (v := 4) dJ6_numberOfTrailingZeros_0f7a4_63 (by decide) ?_
          refine s_icmp_le X (pc := 64) (tgt := 74) dJ6_numberOfTrailingZeros_0f7a4_64 (by decide) (fun c64 => ?_) (fun c64 => ?_)
          ·
            refine s_iload_n X (pc := 74) (x := (1 : Int32) + (4 : Int32)) 1 dJ6_numberOfTrailingZeros_0f7a4_74 rfl ?_
            refine s_iload_n X (pc := 75) (x := ((mJ6_numberOfTrailingZeros_0f7a4_7 p0).toUInt32 >>> ((4 : Int32).toUInt32 &&& Int32.toUInt32 31)).toInt32) 0 dJ6_numberOfTrailingZeros_0f7a4_75 rfl ?_
            refine s_iconst X (pc := 76) (v := 1) dJ6_numberOfTrailingZeros_0f7a4_76 (by decide) ?_
            refine s_iushr X (pc := 77) dJ6_numberOfTrailingZeros_0f7a4_77 rfl ?_
            refine s_iadd X (pc := 78) dJ6_numberOfTrailingZeros_0f7a4_78 ?_
            exact s_iret X (pc := 79) (v := ((1 : Int32) + (4 : Int32)) + (((((mJ6_numberOfTrailingZeros_0f7a4_7 p0).toUInt32 >>> ((4 : Int32).toUInt32 &&& Int32.toUInt32 31)).toInt32).toUInt32 >>> ((1 : Int32).toUInt32 &&& Int32.toUInt32 31)).toInt32)) dJ6_numberOfTrailingZeros_0f7a4_79 (Eq.symm (show rJ6_numberOfTrailingZeros_0f7a4 p0 = ((1 : Int32) + (4 : Int32)) + (((((mJ6_numberOfTrailingZeros_0f7a4_7 p0).toUInt32 >>> ((4 : Int32).toUInt32 &&& Int32.toUInt32 31)).toInt32).toUInt32 >>> ((1 : Int32).toUInt32 &&& Int32.toUInt32 31)).toInt32) from (by unfold rJ6_numberOfTrailingZeros_0f7a4; exact ((if_pos c9).trans ((if_pos c23).trans ((if_pos c38).trans ((if_neg c52).trans (if_pos c64)))))))) rfl
          ·
            refine s_iinc X (pc := 67) (v := ((1 : Int32) + (4 : Int32)) + (2 : Int32)) (lv2 := [(1, .int (((1 : Int32) + (4 : Int32)) + (2 : Int32))), (0, .int (((mJ6_numberOfTrailingZeros_0f7a4_7 p0).toUInt32 >>> ((4 : Int32).toUInt32 &&& Int32.toUInt32 31)).toInt32))]) 1 dJ6_numberOfTrailingZeros_0f7a4_67 rfl rfl (by decide) rfl ?_
            refine s_iload_n X (pc := 70) (x := ((mJ6_numberOfTrailingZeros_0f7a4_7 p0).toUInt32 >>> ((4 : Int32).toUInt32 &&& Int32.toUInt32 31)).toInt32) 1 dJ6_numberOfTrailingZeros_0f7a4_70 rfl ?_
            refine s_iconst X (pc := 71) (v := 2) dJ6_numberOfTrailingZeros_0f7a4_71 (by decide) ?_
            refine s_iushr X (pc := 72) dJ6_numberOfTrailingZeros_0f7a4_72 rfl ?_
            refine s_istore_n X (pc := 73) (i := 0) (lv2 := [(0, .int (((((mJ6_numberOfTrailingZeros_0f7a4_7 p0).toUInt32 >>> ((4 : Int32).toUInt32 &&& Int32.toUInt32 31)).toInt32).toUInt32 >>> ((2 : Int32).toUInt32 &&& Int32.toUInt32 31)).toInt32)), (1, .int (((1 : Int32) + (4 : Int32)) + (2 : Int32)))]) dJ6_numberOfTrailingZeros_0f7a4_73 rfl (by decide) rfl ?_
            refine s_iload_n X (pc := 74) (x := ((1 : Int32) + (4 : Int32)) + (2 : Int32)) 1 dJ6_numberOfTrailingZeros_0f7a4_74 rfl ?_
            refine s_iload_n X (pc := 75) (x := ((((mJ6_numberOfTrailingZeros_0f7a4_7 p0).toUInt32 >>> ((4 : Int32).toUInt32 &&& Int32.toUInt32 31)).toInt32).toUInt32 >>> ((2 : Int32).toUInt32 &&& Int32.toUInt32 31)).toInt32) 0 dJ6_numberOfTrailingZeros_0f7a4_75 rfl ?_
            refine s_iconst X (pc := 76) (v := 1) dJ6_numberOfTrailingZeros_0f7a4_76 (by decide) ?_
            refine s_iushr X (pc := 77) dJ6_numberOfTrailingZeros_0f7a4_77 rfl ?_
            refine s_iadd X (pc := 78) dJ6_numberOfTrailingZeros_0f7a4_78 ?_
            exact s_iret X (pc := 79) (v := (((1 : Int32) + (4 : Int32)) + (2 : Int32)) + (((((((mJ6_numberOfTrailingZeros_0f7a4_7 p0).toUInt32 >>> ((4 : Int32).toUInt32 &&& Int32.toUInt32 31)).toInt32).toUInt32 >>> ((2 : Int32).toUInt32 &&& Int32.toUInt32 31)).toInt32).toUInt32 >>> ((1 : Int32).toUInt32 &&& Int32.toUInt32 31)).toInt32)) dJ6_numberOfTrailingZeros_0f7a4_79 (Eq.symm (show rJ6_numberOfTrailingZeros_0f7a4 p0 = (((1 : Int32) + (4 : Int32)) + (2 : Int32)) + (((((((mJ6_numberOfTrailingZeros_0f7a4_7 p0).toUInt32 >>> ((4 : Int32).toUInt32 &&& Int32.toUInt32 31)).toInt32).toUInt32 >>> ((2 : Int32).toUInt32 &&& Int32.toUInt32 31)).toInt32).toUInt32 >>> ((1 : Int32).toUInt32 &&& Int32.toUInt32 31)).toInt32) from (by unfold rJ6_numberOfTrailingZeros_0f7a4; exact ((if_pos c9).trans ((if_pos c23).trans ((if_pos c38).trans ((if_neg c52).trans (if_neg c64)))))))) rfl
      ·
        refine s_iinc X (pc := 41) (v := (1 : Int32) + (8 : Int32)) (lv2 := [(1, .int ((1 : Int32) + (8 : Int32))), (0, .int (mJ6_numberOfTrailingZeros_0f7a4_7 p0))]) 0 dJ6_numberOfTrailingZeros_0f7a4_41 rfl rfl (by decide) rfl ?_
        refine s_iload_n X (pc := 44) (x := mJ6_numberOfTrailingZeros_0f7a4_7 p0) 1 dJ6_numberOfTrailingZeros_0f7a4_44 rfl ?_
        refine s_bipush X (pc := 45) (v := 8) dJ6_numberOfTrailingZeros_0f7a4_45 (by decide) ?_
        refine s_iushr X (pc := 47) dJ6_numberOfTrailingZeros_0f7a4_47 rfl ?_
        refine s_istore_n X (pc := 48) (i := 0) (lv2 := [(0, .int (((mJ6_numberOfTrailingZeros_0f7a4_7 p0).toUInt32 >>> ((8 : Int32).toUInt32 &&& Int32.toUInt32 31)).toInt32)), (1, .int ((1 : Int32) + (8 : Int32)))]) dJ6_numberOfTrailingZeros_0f7a4_48 rfl (by decide) rfl ?_
        refine s_iload_n X (pc := 49) (x := ((mJ6_numberOfTrailingZeros_0f7a4_7 p0).toUInt32 >>> ((8 : Int32).toUInt32 &&& Int32.toUInt32 31)).toInt32) 0 dJ6_numberOfTrailingZeros_0f7a4_49 rfl ?_
        refine s_bipush X (pc := 50) (v := 16) dJ6_numberOfTrailingZeros_0f7a4_50 (by decide) ?_
        refine s_icmp_le X (pc := 52) (tgt := 62) dJ6_numberOfTrailingZeros_0f7a4_52 (by decide) (fun c52 => ?_) (fun c52 => ?_)
        ·
          refine s_iload_n X (pc := 62) (x := ((mJ6_numberOfTrailingZeros_0f7a4_7 p0).toUInt32 >>> ((8 : Int32).toUInt32 &&& Int32.toUInt32 31)).toInt32) 0 dJ6_numberOfTrailingZeros_0f7a4_62 rfl ?_
          refine s_iconst X (pc := 63) (v := 4) dJ6_numberOfTrailingZeros_0f7a4_63 (by decide) ?_
          refine s_icmp_le X (pc := 64) (tgt := 74) dJ6_numberOfTrailingZeros_0f7a4_64 (by decide) (fun c64 => ?_) (fun c64 => ?_)
          ·
            refine s_iload_n X (pc := 74) (x := (1 : Int32) + (8 : Int32)) 1 dJ6_numberOfTrailingZeros_0f7a4_74 rfl ?_
            refine s_iload_n X (pc := 75) (x := ((mJ6_numberOfTrailingZeros_0f7a4_7 p0).toUInt32 >>> ((8 : Int32).toUInt32 &&& Int32.toUInt32 31)).toInt32) 0 dJ6_numberOfTrailingZeros_0f7a4_75 rfl ?_
            refine s_iconst X (pc := 76) (v := 1) dJ6_numberOfTrailingZeros_0f7a4_76 (by decide) ?_
            refine s_iushr X (pc := 77) dJ6_numberOfTrailingZeros_0f7a4_77 rfl ?_
            refine s_iadd X (pc := 78) dJ6_numberOfTrailingZeros_0f7a4_78 ?_
            exact s_iret X (pc := 79) (v := ((1 : Int32) + (8 : Int32)) + (((((mJ6_numberOfTrailingZeros_0f7a4_7 p0).toUInt32 >>> ((8 : Int32).toUInt32 &&& Int32.toUInt32 31)).toInt32).toUInt32 >>> ((1 : Int32).toUInt32 &&& Int32.toUInt32 31)).toInt32)) dJ6_numberOfTrailingZeros_0f7a4_79 (Eq.symm (show rJ6_numberOfTrailingZeros_0f7a4 p0 = ((1 : Int32) + (8 : Int32)) + (((((mJ6_numberOfTrailingZeros_0f7a4_7 p0).toUInt32 >>> ((8 : Int32).toUInt32 &&& Int32.toUInt32 31)).toInt32).toUInt32 >>> ((1 : Int32).toUInt32 &&& Int32.toUInt32 31)).toInt32) from (by unfold rJ6_numberOfTrailingZeros_0f7a4; exact ((if_pos c9).trans ((if_pos c23).trans ((if_neg c38).trans ((if_pos c52).trans (if_pos c64)))))))) rfl
          ·
            refine s_iinc X (pc := 67) (v := ((1 : Int32) + (8 : Int32)) + (2 : Int32)) (lv2 := [(1, .int (((1 : Int32) + (8 : Int32)) + (2 : Int32))), (0, .int (((mJ6_numberOfTrailingZeros_0f7a4_7 p0).toUInt32 >>> ((8 : Int32).toUInt32 &&& Int32.toUInt32 31)).toInt32))]) 1 dJ6_numberOfTrailingZeros_0f7a4_67 rfl rfl (by decide) rfl ?_
            refine s_iload_n X (pc := 70) (x := ((mJ6_numberOfTrailingZeros_0f7a4_7 p0).toUInt32 >>> ((8 : Int32).toUInt32 &&& Int32.toUInt32 31)).toInt32) 1 dJ6_numberOfTrailingZeros_0f7a4_70 rfl ?_
            refine s_iconst X (pc := 71) (v := 2) dJ6_numberOfTrailingZeros_0f7a4_71 (by decide) ?_
            refine s_iushr X (pc := 72) dJ6_numberOfTrailingZeros_0f7a4_72 rfl ?_
            refine s_istore_n X (pc := 73) (i := 0) (lv2 := [(0, .int (((((mJ6_numberOfTrailingZeros_0f7a4_7 p0).toUInt32 >>> ((8 : Int32).toUInt32 &&& Int32.toUInt32 31)).toInt32).toUInt32 >>> ((2 : Int32).toUInt32 &&& Int32.toUInt32 31)).toInt32)), (1, .int (((1 : Int32) + (8 : Int32)) + (2 : Int32)))]) dJ6_numberOfTrailingZeros_0f7a4_73 rfl (by decide) rfl ?_
            refine s_iload_n X (pc := 74) (x := ((1 : Int32) + (8 : Int32)) + (2 : Int32)) 1 dJ6_numberOfTrailingZeros_0f7a4_74 rfl ?_
            refine s_iload_n X (pc := 75) (x := ((((mJ6_numberOfTrailingZeros_0f7a4_7 p0).toUInt32 >>> ((8 : Int32).toUInt32 &&& Int32.toUInt32 31)).toInt32).toUInt32 >>> ((2 : Int32).toUInt32 &&& Int32.toUInt32 31)).toInt32) 0 dJ6_numberOfTrailingZeros_0f7a4_75 rfl ?_
            refine s_iconst X (pc := 76) (v := 1) dJ6_numberOfTrailingZeros_0f7a4_76 (by decide) ?_
            refine s_iushr X (pc := 77) dJ6_numberOfTrailingZeros_0f7a4_77 rfl ?_
            refine s_iadd X (pc := 78) dJ6_numberOfTrailingZeros_0f7a4_78 ?_
            exact s_iret X (pc := 79) (v := (((1 : Int32) + (8 : Int32)) + (2 : Int32)) + (((((((mJ6_numberOfTrailingZeros_0f7a4_7 p0).toUInt32 >>> ((8 : Int32).toUInt32 &&& Int32.toUInt32 31)).toInt32).toUInt32 >>> ((2 : Int32).toUInt32 &&& Int32.toUInt32 31)).toInt32).toUInt32 >>> ((1 : Int32).toUInt32 &&& Int32.toUInt32 31)).toInt32)) dJ6_numberOfTrailingZeros_0f7a4_79 (Eq.symm (show rJ6_numberOfTrailingZeros_0f7a4 p0 = (((1 : Int32) + (8 : Int32)) + (2 : Int32)) + (((((((mJ6_numberOfTrailingZeros_0f7a4_7 p0).toUInt32 >>> ((8 : Int32).toUInt32 &&& Int32.toUInt32 31)).toInt32).toUInt32 >>> ((2 : Int32).toUInt32 &&& Int32.toUInt32 31)).toInt32).toUInt32 >>> ((1 : Int32).toUInt32 &&& Int32.toUInt32 31)).toInt32) from (by unfold rJ6_numberOfTrailingZeros_0f7a4; exact ((if_pos c9).trans ((if_pos c23).trans ((if_neg c38).trans ((if_pos c52).trans (if_neg c64)))))))) rfl
        ·
          refine s_iinc X (pc := 55) (v := ((1 : Int32) + (8 : Int32)) + (4 : Int32)) (lv2 := [(1, .int (((1 : Int32) + (8 : Int32)) + (4 : Int32))), (0, .int (((mJ6_numberOfTrailingZeros_0f7a4_7 p0).toUInt32 >>> ((8 : Int32).toUInt32 &&& Int32.toUInt32 31)).toInt32))]) 1 dJ6_numberOfTrailingZeros_0f7a4_55 rfl rfl (by decide) rfl ?_
          refine s_iload_n X (pc := 58) (x := ((mJ6_numberOfTrailingZeros_0f7a4_7 p0).toUInt32 >>> ((8 : Int32).toUInt32 &&& Int32.toUInt32 31)).toInt32) 1 dJ6_numberOfTrailingZeros_0f7a4_58 rfl ?_
          refine s_iconst X (pc := 59) (v := 4) dJ6_numberOfTrailingZeros_0f7a4_59 (by decide) ?_
          refine s_iushr X (pc := 60) dJ6_numberOfTrailingZeros_0f7a4_60 rfl ?_
          refine s_istore_n X (pc := 61) (i := 0) (lv2 := [(0, .int (((((mJ6_numberOfTrailingZeros_0f7a4_7 p0).toUInt32 >>> ((8 : Int32).toUInt32 &&& Int32.toUInt32 31)).toInt32).toUInt32 >>> ((4 : Int32).toUInt32 &&& Int32.toUInt32 31)).toInt32)), (1, .int (((1 : Int32) + (8 : Int32)) + (4 : Int32)))]) dJ6_numberOfTrailingZeros_0f7a4_61 rfl (by decide) rfl ?_
          refine s_iload_n X (pc := 62) (x := ((((mJ6_numberOfTrailingZeros_0f7a4_7 p0).toUInt32 >>> ((8 : Int32).toUInt32 &&& Int32.toUInt32 31)).toInt32).toUInt32 >>> ((4 : Int32).toUInt32 &&& Int32.toUInt32 31)).toInt32) 0 dJ6_numberOfTrailingZeros_0f7a4_62 rfl ?_
          refine s_iconst X (pc := 63) (v := 4) dJ6_numberOfTrailingZeros_0f7a4_63 (by decide) ?_
          refine s_icmp_le X (pc := 64) (tgt := 74) dJ6_numberOfTrailingZeros_0f7a4_64 (by decide) (fun c64 => ?_) (fun c64 => ?_)
          ·
            refine s_iload_n X (pc := 74) (x := ((1 : Int32) + (8 : Int32)) + (4 : Int32)) 1 dJ6_numberOfTrailingZeros_0f7a4_74 rfl ?_
            refine s_iload_n X (pc := 75) (x := ((((mJ6_numberOfTrailingZeros_0f7a4_7 p0).toUInt32 >>> ((8 : Int32).toUInt32 &&& Int32.toUInt32 31)).toInt32).toUInt32 >>> ((4 : Int32).toUInt32 &&& Int32.toUInt32 31)).toInt32) 0 dJ6_numberOfTrailingZeros_0f7a4_75 rfl ?_
            refine s_iconst X (pc := 76) (v := 1) dJ6_numberOfTrailingZeros_0f7a4_76 (by decide) ?_
            refine s_iushr X (pc := 77) dJ6_numberOfTrailingZeros_0f7a4_77 rfl ?_
            refine s_iadd X (pc := 78) dJ6_numberOfTrailingZeros_0f7a4_78 ?_
            exact s_iret X (pc := 79) (v := (((1 : Int32) + (8 : Int32)) + (4 : Int32)) + (((((((mJ6_numberOfTrailingZeros_0f7a4_7 p0).toUInt32 >>> ((8 : Int32).toUInt32 &&& Int32.toUInt32 31)).toInt32).toUInt32 >>> ((4 : Int32).toUInt32 &&& Int32.toUInt32 31)).toInt32).toUInt32 >>> ((1 : Int32).toUInt32 &&& Int32.toUInt32 31)).toInt32)) dJ6_numberOfTrailingZeros_0f7a4_79 (Eq.symm (show rJ6_numberOfTrailingZeros_0f7a4 p0 = (((1 : Int32) + (8 : Int32)) + (4 : Int32)) + (((((((mJ6_numberOfTrailingZeros_0f7a4_7 p0).toUInt32 >>> ((8 : Int32).toUInt32 &&& Int32.toUInt32 31)).toInt32).toUInt32 >>> ((4 : Int32).toUInt32 &&& Int32.toUInt32 31)).toInt32).toUInt32 >>> ((1 : Int32).toUInt32 &&& Int32.toUInt32 31)).toInt32) from (by unfold rJ6_numberOfTrailingZeros_0f7a4; exact ((if_pos c9).trans ((if_pos c23).trans ((if_neg c38).trans ((if_neg c52).trans (if_pos c64)))))))) rfl
          ·
            refine s_iinc X (pc := 67) (v := (((1 : Int32) + (8 : Int32)) + (4 : Int32)) + (2 : Int32)) (lv2 := [(1, .int ((((1 : Int32) + (8 : Int32)) + (4 : Int32)) + (2 : Int32))), (0, .int (((((mJ6_numberOfTrailingZeros_0f7a4_7 p0).toUInt32 >>> ((8 : Int32).toUInt32 &&& Int32.toUInt32 31)).toInt32).toUInt32 >>> ((4 : Int32).toUInt32 &&& Int32.toUInt32 31)).toInt32))]) 1 dJ6_numberOfTrailingZeros_0f7a4_67 rfl rfl (by decide) rfl ?_
            refine s_iload_n X (pc := 70) (x := ((((mJ6_numberOfTrailingZeros_0f7a4_7 p0).toUInt32 >>> ((8 : Int32).toUInt32 &&& Int32.toUInt32 31)).toInt32).toUInt32 >>> ((4 : Int32).toUInt32 &&& Int32.toUInt32 31)).toInt32) 1 dJ6_numberOfTrailingZeros_0f7a4_70 rfl ?_
            refine s_iconst X (pc := 71) (v := 2) dJ6_numberOfTrailingZeros_0f7a4_71 (by decide) ?_
            refine s_iushr X (pc := 72) dJ6_numberOfTrailingZeros_0f7a4_72 rfl ?_
            refine s_istore_n X (pc := 73) (i := 0) (lv2 := [(0, .int (((((((mJ6_numberOfTrailingZeros_0f7a4_7 p0).toUInt32 >>> ((8 : Int32).toUInt32 &&& Int32.toUInt32 31)).toInt32).toUInt32 >>> ((4 : Int32).toUInt32 &&& Int32.toUInt32 31)).toInt32).toUInt32 >>> ((2 : Int32).toUInt32 &&& Int32.toUInt32 31)).toInt32)), (1, .int ((((1 : Int32) + (8 : Int32)) + (4 : Int32)) + (2 : Int32)))]) dJ6_numberOfTrailingZeros_0f7a4_73 rfl (by decide) rfl ?_
            refine s_iload_n X (pc := 74) (x := (((1 : Int32) + (8 : Int32)) + (4 : Int32)) + (2 : Int32)) 1 dJ6_numberOfTrailingZeros_0f7a4_74 rfl ?_
            refine s_iload_n X (pc := 75) (x := ((((((mJ6_numberOfTrailingZeros_0f7a4_7 p0).toUInt32 >>> ((8 : Int32).toUInt32 &&& Int32.toUInt32 31)).toInt32).toUInt32 >>> ((4 : Int32).toUInt32 &&& Int32.toUInt32 31)).toInt32).toUInt32 >>> ((2 : Int32).toUInt32 &&& Int32.toUInt32 31)).toInt32) 0 dJ6_numberOfTrailingZeros_0f7a4_75 rfl ?_
            refine s_iconst X (pc := 76) (v := 1) dJ6_numberOfTrailingZeros_0f7a4_76 (by decide) ?_
            refine s_iushr X (pc := 77) dJ6_numberOfTrailingZeros_0f7a4_77 rfl ?_
            refine s_iadd X (pc := 78) dJ6_numberOfTrailingZeros_0f7a4_78 ?_
            exact s_iret X (pc := 79) (v := ((((1 : Int32) + (8 : Int32)) + (4 : Int32)) + (2 : Int32)) + (((((((((mJ6_numberOfTrailingZeros_0f7a4_7 p0).toUInt32 >>> ((8 : Int32).toUInt32 &&& Int32.toUInt32 31)).toInt32).toUInt32 >>> ((4 : Int32).toUInt32 &&& Int32.toUInt32 31)).toInt32).toUInt32 >>> ((2 : Int32).toUInt32 &&& Int32.toUInt32 31)).toInt32).toUInt32 >>> ((1 : Int32).toUInt32 &&& Int32.toUInt32 31)).toInt32)) dJ6_numberOfTrailingZeros_0f7a4_79 (Eq.symm (show rJ6_numberOfTrailingZeros_0f7a4 p0 = ((((1 : Int32) + (8 : Int32)) + (4 : Int32)) + (2 : Int32)) + (((((((((mJ6_numberOfTrailingZeros_0f7a4_7 p0).toUInt32 >>> ((8 : Int32).toUInt32 &&& Int32.toUInt32 31)).toInt32).toUInt32 >>> ((4 : Int32).toUInt32 &&& Int32.toUInt32 31)).toInt32).toUInt32 >>> ((2 : Int32).toUInt32 &&& Int32.toUInt32 31)).toInt32).toUInt32 >>> ((1 : Int32).toUInt32 &&& Int32.toUInt32 31)).toInt32) from (by unfold rJ6_numberOfTrailingZeros_0f7a4; exact ((if_pos c9).trans ((if_pos c23).trans ((if_neg c38).trans ((if_neg c52).trans (if_neg c64)))))))) rfl
    ·
      refine s_iinc X (pc := 26) (v := (1 : Int32) + (16 : Int32)) (lv2 := [(1, .int ((1 : Int32) + (16 : Int32))), (0, .int (mJ6_numberOfTrailingZeros_0f7a4_7 p0))]) 0 dJ6_numberOfTrailingZeros_0f7a4_26 rfl rfl (by decide) rfl ?_
      refine s_iload_n X (pc := 29) (x := mJ6_numberOfTrailingZeros_0f7a4_7 p0) 1 dJ6_numberOfTrailingZeros_0f7a4_29 rfl ?_
      refine s_bipush X (pc := 30) (v := 16) dJ6_numberOfTrailingZeros_0f7a4_30 (by decide) ?_
      refine s_iushr X (pc := 32) dJ6_numberOfTrailingZeros_0f7a4_32 rfl ?_
      refine s_istore_n X (pc := 33) (i := 0) (lv2 := [(0, .int (((mJ6_numberOfTrailingZeros_0f7a4_7 p0).toUInt32 >>> ((16 : Int32).toUInt32 &&& Int32.toUInt32 31)).toInt32)), (1, .int ((1 : Int32) + (16 : Int32)))]) dJ6_numberOfTrailingZeros_0f7a4_33 rfl (by decide) rfl ?_
      refine s_iload_n X (pc := 34) (x := ((mJ6_numberOfTrailingZeros_0f7a4_7 p0).toUInt32 >>> ((16 : Int32).toUInt32 &&& Int32.toUInt32 31)).toInt32) 0 dJ6_numberOfTrailingZeros_0f7a4_34 rfl ?_
      refine s_sipush X (pc := 35) (v := 256) dJ6_numberOfTrailingZeros_0f7a4_35 (by decide) ?_
      refine s_icmp_le X (pc := 38) (tgt := 49) dJ6_numberOfTrailingZeros_0f7a4_38 (by decide) (fun c38 => ?_) (fun c38 => ?_)
      ·
        refine s_iload_n X (pc := 49) (x := ((mJ6_numberOfTrailingZeros_0f7a4_7 p0).toUInt32 >>> ((16 : Int32).toUInt32 &&& Int32.toUInt32 31)).toInt32) 0 dJ6_numberOfTrailingZeros_0f7a4_49 rfl ?_
        refine s_bipush X (pc := 50) (v := 16) dJ6_numberOfTrailingZeros_0f7a4_50 (by decide) ?_
        refine s_icmp_le X (pc := 52) (tgt := 62) dJ6_numberOfTrailingZeros_0f7a4_52 (by decide) (fun c52 => ?_) (fun c52 => ?_)
        ·
          refine s_iload_n X (pc := 62) (x := ((mJ6_numberOfTrailingZeros_0f7a4_7 p0).toUInt32 >>> ((16 : Int32).toUInt32 &&& Int32.toUInt32 31)).toInt32) 0 dJ6_numberOfTrailingZeros_0f7a4_62 rfl ?_
          refine s_iconst X (pc := 63) (v := 4) dJ6_numberOfTrailingZeros_0f7a4_63 (by decide) ?_
          refine s_icmp_le X (pc := 64) (tgt := 74) dJ6_numberOfTrailingZeros_0f7a4_64 (by decide) (fun c64 => ?_) (fun c64 => ?_)
          ·
            refine s_iload_n X (pc := 74) (x := (1 : Int32) + (16 : Int32)) 1 dJ6_numberOfTrailingZeros_0f7a4_74 rfl ?_
            refine s_iload_n X (pc := 75) (x := ((mJ6_numberOfTrailingZeros_0f7a4_7 p0).toUInt32 >>> ((16 : Int32).toUInt32 &&& Int32.toUInt32 31)).toInt32) 0 dJ6_numberOfTrailingZeros_0f7a4_75 rfl ?_
            refine s_iconst X (pc := 76) (v := 1) dJ6_numberOfTrailingZeros_0f7a4_76 (by decide) ?_
            refine s_iushr X (pc := 77) dJ6_numberOfTrailingZeros_0f7a4_77 rfl ?_
            refine s_iadd X (pc := 78) dJ6_numberOfTrailingZeros_0f7a4_78 ?_
            exact s_iret X (pc := 79) (v := ((1 : Int32) + (16 : Int32)) + (((((mJ6_numberOfTrailingZeros_0f7a4_7 p0).toUInt32 >>> ((16 : Int32).toUInt32 &&& Int32.toUInt32 31)).toInt32).toUInt32 >>> ((1 : Int32).toUInt32 &&& Int32.toUInt32 31)).toInt32)) dJ6_numberOfTrailingZeros_0f7a4_79 (Eq.symm (show rJ6_numberOfTrailingZeros_0f7a4 p0 = ((1 : Int32) + (16 : Int32)) + (((((mJ6_numberOfTrailingZeros_0f7a4_7 p0).toUInt32 >>> ((16 : Int32).toUInt32 &&& Int32.toUInt32 31)).toInt32).toUInt32 >>> ((1 : Int32).toUInt32 &&& Int32.toUInt32 31)).toInt32) from (by unfold rJ6_numberOfTrailingZeros_0f7a4; exact ((if_pos c9).trans ((if_neg c23).trans ((if_pos c38).trans ((if_pos c52).trans (if_pos c64)))))))) rfl
          ·
            refine s_iinc X (pc := 67) (v := ((1 : Int32) + (16 : Int32)) + (2 : Int32)) (lv2 := [(1, .int (((1 : Int32) + (16 : Int32)) + (2 : Int32))), (0, .int (((mJ6_numberOfTrailingZeros_0f7a4_7 p0).toUInt32 >>> ((16 : Int32).toUInt32 &&& Int32.toUInt32 31)).toInt32))]) 1 dJ6_numberOfTrailingZeros_0f7a4_67 rfl rfl (by decide) rfl ?_
            refine s_iload_n X (pc := 70) (x := ((mJ6_numberOfTrailingZeros_0f7a4_7 p0).toUInt32 >>> ((16 : Int32).toUInt32 &&& Int32.toUInt32 31)).toInt32) 1 dJ6_numberOfTrailingZeros_0f7a4_70 rfl ?_
            refine s_iconst X (pc := 71) (v := 2) dJ6_numberOfTrailingZeros_0f7a4_71 (by decide) ?_
            refine s_iushr X (pc := 72) dJ6_numberOfTrailingZeros_0f7a4_72 rfl ?_
            refine s_istore_n X (pc := 73) (i := 0) (lv2 := [(0, .int (((((mJ6_numberOfTrailingZeros_0f7a4_7 p0).toUInt32 >>> ((16 : Int32).toUInt32 &&& Int32.toUInt32 31)).toInt32).toUInt32 >>> ((2 : Int32).toUInt32 &&& Int32.toUInt32 31)).toInt32)), (1, .int (((1 : Int32) + (16 : Int32)) + (2 : Int32)))]) dJ6_numberOfTrailingZeros_0f7a4_73 rfl (by decide) rfl ?_
            refine s_iload_n X (pc := 74) (x := ((1 : Int32) + (16 : Int32)) + (2 : Int32)) 1 dJ6_numberOfTrailingZeros_0f7a4_74 rfl ?_
            refine s_iload_n X (pc := 75) (x := ((((mJ6_numberOfTrailingZeros_0f7a4_7 p0).toUInt32 >>> ((16 : Int32).toUInt32 &&& Int32.toUInt32 31)).toInt32).toUInt32 >>> ((2 : Int32).toUInt32 &&& Int32.toUInt32 31)).toInt32) 0 dJ6_numberOfTrailingZeros_0f7a4_75 rfl ?_
            refine s_iconst X (pc := 76) (v := 1) dJ6_numberOfTrailingZeros_0f7a4_76 (by decide) ?_
            refine s_iushr X (pc := 77) dJ6_numberOfTrailingZeros_0f7a4_77 rfl ?_
            refine s_iadd X (pc := 78) dJ6_numberOfTrailingZeros_0f7a4_78 ?_
            exact s_iret X (pc := 79) (v := (((1 : Int32) + (16 : Int32)) + (2 : Int32)) + (((((((mJ6_numberOfTrailingZeros_0f7a4_7 p0).toUInt32 >>> ((16 : Int32).toUInt32 &&& Int32.toUInt32 31)).toInt32).toUInt32 >>> ((2 : Int32).toUInt32 &&& Int32.toUInt32 31)).toInt32).toUInt32 >>> ((1 : Int32).toUInt32 &&& Int32.toUInt32 31)).toInt32)) dJ6_numberOfTrailingZeros_0f7a4_79 (Eq.symm (show rJ6_numberOfTrailingZeros_0f7a4 p0 = (((1 : Int32) + (16 : Int32)) + (2 : Int32)) + (((((((mJ6_numberOfTrailingZeros_0f7a4_7 p0).toUInt32 >>> ((16 : Int32).toUInt32 &&& Int32.toUInt32 31)).toInt32).toUInt32 >>> ((2 : Int32).toUInt32 &&& Int32.toUInt32 31)).toInt32).toUInt32 >>> ((1 : Int32).toUInt32 &&& Int32.toUInt32 31)).toInt32) from (by unfold rJ6_numberOfTrailingZeros_0f7a4; exact ((if_pos c9).trans ((if_neg c23).trans ((if_pos c38).trans ((if_pos c52).trans (if_neg c64)))))))) rfl
        ·
          refine s_iinc X (pc := 55) (v := ((1 : Int32) + (16 : Int32)) + (4 : Int32)) (lv2 := [(1, .int (((1 : Int32) + (16 : Int32)) + (4 : Int32))), (0, .int (((mJ6_numberOfTrailingZeros_0f7a4_7 p0).toUInt32 >>> ((16 : Int32).toUInt32 &&& Int32.toUInt32 31)).toInt32))]) 1 dJ6_numberOfTrailingZeros_0f7a4_55 rfl rfl (by decide) rfl ?_
          refine s_iload_n X (pc := 58) (x := ((mJ6_numberOfTrailingZeros_0f7a4_7 p0).toUInt32 >>> ((16 : Int32).toUInt32 &&& Int32.toUInt32 31)).toInt32) 1 dJ6_numberOfTrailingZeros_0f7a4_58 rfl ?_
          refine s_iconst X (pc := 59) (v := 4) dJ6_numberOfTrailingZeros_0f7a4_59 (by decide) ?_
          refine s_iushr X (pc := 60) dJ6_numberOfTrailingZeros_0f7a4_60 rfl ?_
          refine s_istore_n X (pc := 61) (i := 0) (lv2 := [(0, .int (((((mJ6_numberOfTrailingZeros_0f7a4_7 p0).toUInt32 >>> ((16 : Int32).toUInt32 &&& Int32.toUInt32 31)).toInt32).toUInt32 >>> ((4 : Int32).toUInt32 &&& Int32.toUInt32 31)).toInt32)), (1, .int (((1 : Int32) + (16 : Int32)) + (4 : Int32)))]) dJ6_numberOfTrailingZeros_0f7a4_61 rfl (by decide) rfl ?_
          refine s_iload_n X (pc := 62) (x := ((((mJ6_numberOfTrailingZeros_0f7a4_7 p0).toUInt32 >>> ((16 : Int32).toUInt32 &&& Int32.toUInt32 31)).toInt32).toUInt32 >>> ((4 : Int32).toUInt32 &&& Int32.toUInt32 31)).toInt32) 0 dJ6_numberOfTrailingZeros_0f7a4_62 rfl ?_
          refine s_iconst X (pc := 63) (v := 4) dJ6_numberOfTrailingZeros_0f7a4_63 (by decide) ?_
          refine s_icmp_le X (pc := 64) (tgt := 74) dJ6_numberOfTrailingZeros_0f7a4_64 (by decide) (fun c64 => ?_) (fun c64 => ?_)
          ·
            refine s_iload_n X (pc := 74) (x := ((1 : Int32) + (16 : Int32)) + (4 : Int32)) 1 dJ6_numberOfTrailingZeros_0f7a4_74 rfl ?_
            refine s_iload_n X (pc := 75) (x := ((((mJ6_numberOfTrailingZeros_0f7a4_7 p0).toUInt32 >>> ((16 : Int32).toUInt32 &&& Int32.toUInt32 31)).toInt32).toUInt32 >>> ((4 : Int32).toUInt32 &&& Int32.toUInt32 31)).toInt32) 0 dJ6_numberOfTrailingZeros_0f7a4_75 rfl ?_
            refine s_iconst X (pc := 76) (v := 1) dJ6_numberOfTrailingZeros_0f7a4_76 (by decide) ?_
            refine s_iushr X (pc := 77) dJ6_numberOfTrailingZeros_0f7a4_77 rfl ?_
            refine s_iadd X (pc := 78) dJ6_numberOfTrailingZeros_0f7a4_78 ?_
            exact s_iret X (pc := 79) (v := (((1 : Int32) + (16 : Int32)) + (4 : Int32)) + (((((((mJ6_numberOfTrailingZeros_0f7a4_7 p0).toUInt32 >>> ((16 : Int32).toUInt32 &&& Int32.toUInt32 31)).toInt32).toUInt32 >>> ((4 : Int32).toUInt32 &&& Int32.toUInt32 31)).toInt32).toUInt32 >>> ((1 : Int32).toUInt32 &&& Int32.toUInt32 31)).toInt32)) dJ6_numberOfTrailingZeros_0f7a4_79 (Eq.symm (show rJ6_numberOfTrailingZeros_0f7a4 p0 = (((1 : Int32) + (16 : Int32)) + (4 : Int32)) + (((((((mJ6_numberOfTrailingZeros_0f7a4_7 p0).toUInt32 >>> ((16 : Int32).toUInt32 &&& Int32.toUInt32 31)).toInt32).toUInt32 >>> ((4 : Int32).toUInt32 &&& Int32.toUInt32 31)).toInt32).toUInt32 >>> ((1 : Int32).toUInt32 &&& Int32.toUInt32 31)).toInt32) from (by unfold rJ6_numberOfTrailingZeros_0f7a4; exact ((if_pos c9).trans ((if_neg c23).trans ((if_pos c38).trans ((if_neg c52).trans (if_pos c64)))))))) rfl
          ·
            refine s_iinc X (pc := 67) (v := (((1 : Int32) + (16 : Int32)) + (4 : Int32)) + (2 : Int32)) (lv2 := [(1, .int ((((1 : Int32) + (16 : Int32)) + (4 : Int32)) + (2 : Int32))), (0, .int (((((mJ6_numberOfTrailingZeros_0f7a4_7 p0).toUInt32 >>> ((16 : Int32).toUInt32 &&& Int32.toUInt32 31)).toInt32).toUInt32 >>> ((4 : Int32).toUInt32 &&& Int32.toUInt32 31)).toInt32))]) 1 dJ6_numberOfTrailingZeros_0f7a4_67 rfl rfl (by decide) rfl ?_
            refine s_iload_n X (pc := 70) (x := ((((mJ6_numberOfTrailingZeros_0f7a4_7 p0).toUInt32 >>> ((16 : Int32).toUInt32 &&& Int32.toUInt32 31)).toInt32).toUInt32 >>> ((4 : Int32).toUInt32 &&& Int32.toUInt32 31)).toInt32) 1 dJ6_numberOfTrailingZeros_0f7a4_70 rfl ?_
            refine s_iconst X (pc := 71) (v := 2) dJ6_numberOfTrailingZeros_0f7a4_71 (by decide) ?_
            refine s_iushr X (pc := 72) dJ6_numberOfTrailingZeros_0f7a4_72 rfl ?_
            refine s_istore_n X (pc := 73) (i := 0) (lv2 := [(0, .int (((((((mJ6_numberOfTrailingZeros_0f7a4_7 p0).toUInt32 >>> ((16 : Int32).toUInt32 &&& Int32.toUInt32 31)).toInt32).toUInt32 >>> ((4 : Int32).toUInt32 &&& Int32.toUInt32 31)).toInt32).toUInt32 >>> ((2 : Int32).toUInt32 &&& Int32.toUInt32 31)).toInt32)), (1, .int ((((1 : Int32) + (16 : Int32)) + (4 : Int32)) + (2 : Int32)))]) dJ6_numberOfTrailingZeros_0f7a4_73 rfl (by decide) rfl ?_
            refine s_iload_n X (pc := 74) (x := (((1 : Int32) + (16 : Int32)) + (4 : Int32)) + (2 : Int32)) 1 dJ6_numberOfTrailingZeros_0f7a4_74 rfl ?_
            refine s_iload_n X (pc := 75) (x := ((((((mJ6_numberOfTrailingZeros_0f7a4_7 p0).toUInt32 >>> ((16 : Int32).toUInt32 &&& Int32.toUInt32 31)).toInt32).toUInt32 >>> ((4 : Int32).toUInt32 &&& Int32.toUInt32 31)).toInt32).toUInt32 >>> ((2 : Int32).toUInt32 &&& Int32.toUInt32 31)).toInt32) 0 dJ6_numberOfTrailingZeros_0f7a4_75 rfl ?_
            refine s_iconst X (pc := 76) (v := 1) dJ6_numberOfTrailingZeros_0f7a4_76 (by decide) ?_
            refine s_iushr X (pc := 77) dJ6_numberOfTrailingZeros_0f7a4_77 rfl ?_
            refine s_iadd X (pc := 78) dJ6_numberOfTrailingZeros_0f7a4_78 ?_
            exact s_iret X (pc := 79) (v := ((((1 : Int32) + (16 : Int32)) + (4 : Int32)) + (2 : Int32)) + (((((((((mJ6_numberOfTrailingZeros_0f7a4_7 p0).toUInt32 >>> ((16 : Int32).toUInt32 &&& Int32.toUInt32 31)).toInt32).toUInt32 >>> ((4 : Int32).toUInt32 &&& Int32.toUInt32 31)).toInt32).toUInt32 >>> ((2 : Int32).toUInt32 &&& Int32.toUInt32 31)).toInt32).toUInt32 >>> ((1 : Int32).toUInt32 &&& Int32.toUInt32 31)).toInt32)) dJ6_numberOfTrailingZeros_0f7a4_79 (Eq.symm (show rJ6_numberOfTrailingZeros_0f7a4 p0 = ((((1 : Int32) + (16 : Int32)) + (4 : Int32)) + (2 : Int32)) + (((((((((mJ6_numberOfTrailingZeros_0f7a4_7 p0).toUInt32 >>> ((16 : Int32).toUInt32 &&& Int32.toUInt32 31)).toInt32).toUInt32 >>> ((4 : Int32).toUInt32 &&& Int32.toUInt32 31)).toInt32).toUInt32 >>> ((2 : Int32).toUInt32 &&& Int32.toUInt32 31)).toInt32).toUInt32 >>> ((1 : Int32).toUInt32 &&& Int32.toUInt32 31)).toInt32) from (by unfold rJ6_numberOfTrailingZeros_0f7a4; exact ((if_pos c9).trans ((if_neg c23).trans ((if_pos c38).trans ((if_neg c52).trans (if_neg c64)))))))) rfl
      ·
        refine s_iinc X (pc := 41) (v := ((1 : Int32) + (16 : Int32)) + (8 : Int32)) (lv2 := [(1, .int (((1 : Int32) + (16 : Int32)) + (8 : Int32))), (0, .int (((mJ6_numberOfTrailingZeros_0f7a4_7 p0).toUInt32 >>> ((16 : Int32).toUInt32 &&& Int32.toUInt32 31)).toInt32))]) 1 dJ6_numberOfTrailingZeros_0f7a4_41 rfl rfl (by decide) rfl ?_
        refine s_iload_n X (pc := 44) (x := ((mJ6_numberOfTrailingZeros_0f7a4_7 p0).toUInt32 >>> ((16 : Int32).toUInt32 &&& Int32.toUInt32 31)).toInt32) 1 dJ6_numberOfTrailingZeros_0f7a4_44 rfl ?_
        refine s_bipush X (pc := 45) (v := 8) dJ6_numberOfTrailingZeros_0f7a4_45 (by decide) ?_
        refine s_iushr X (pc := 47) dJ6_numberOfTrailingZeros_0f7a4_47 rfl ?_
        refine s_istore_n X (pc := 48) (i := 0) (lv2 := [(0, .int (((((mJ6_numberOfTrailingZeros_0f7a4_7 p0).toUInt32 >>> ((16 : Int32).toUInt32 &&& Int32.toUInt32 31)).toInt32).toUInt32 >>> ((8 : Int32).toUInt32 &&& Int32.toUInt32 31)).toInt32)), (1, .int (((1 : Int32) + (16 : Int32)) + (8 : Int32)))]) dJ6_numberOfTrailingZeros_0f7a4_48 rfl (by decide) rfl ?_
        refine s_iload_n X (pc := 49) (x := ((((mJ6_numberOfTrailingZeros_0f7a4_7 p0).toUInt32 >>> ((16 : Int32).toUInt32 &&& Int32.toUInt32 31)).toInt32).toUInt32 >>> ((8 : Int32).toUInt32 &&& Int32.toUInt32 31)).toInt32) 0 dJ6_numberOfTrailingZeros_0f7a4_49 rfl ?_
        refine s_bipush X (pc := 50) (v := 16) dJ6_numberOfTrailingZeros_0f7a4_50 (by decide) ?_
        refine s_icmp_le X (pc := 52) (tgt := 62) dJ6_numberOfTrailingZeros_0f7a4_52 (by decide) (fun c52 => ?_) (fun c52 => ?_)
        ·
          refine s_iload_n X (pc := 62) (x := ((((mJ6_numberOfTrailingZeros_0f7a4_7 p0).toUInt32 >>> ((16 : Int32).toUInt32 &&& Int32.toUInt32 31)).toInt32).toUInt32 >>> ((8 : Int32).toUInt32 &&& Int32.toUInt32 31)).toInt32) 0 dJ6_numberOfTrailingZeros_0f7a4_62 rfl ?_
          refine s_iconst X (pc := 63) (v := 4) dJ6_numberOfTrailingZeros_0f7a4_63 (by decide) ?_
          refine s_icmp_le X (pc := 64) (tgt := 74) dJ6_numberOfTrailingZeros_0f7a4_64 (by decide) (fun c64 => ?_) (fun c64 => ?_)
          ·
            refine s_iload_n X (pc := 74) (x := ((1 : Int32) + (16 : Int32)) + (8 : Int32)) 1 dJ6_numberOfTrailingZeros_0f7a4_74 rfl ?_
            refine s_iload_n X (pc := 75) (x := ((((mJ6_numberOfTrailingZeros_0f7a4_7 p0).toUInt32 >>> ((16 : Int32).toUInt32 &&& Int32.toUInt32 31)).toInt32).toUInt32 >>> ((8 : Int32).toUInt32 &&& Int32.toUInt32 31)).toInt32) 0 dJ6_numberOfTrailingZeros_0f7a4_75 rfl ?_
            refine s_iconst X (pc := 76) (v := 1) dJ6_numberOfTrailingZeros_0f7a4_76 (by decide) ?_
            refine s_iushr X (pc := 77) dJ6_numberOfTrailingZeros_0f7a4_77 rfl ?_
            refine s_iadd X (pc := 78) dJ6_numberOfTrailingZeros_0f7a4_78 ?_
            exact s_iret X (pc := 79) (v := (((1 : Int32) + (16 : Int32)) + (8 : Int32)) + (((((((mJ6_numberOfTrailingZeros_0f7a4_7 p0).toUInt32 >>> ((16 : Int32).toUInt32 &&& Int32.toUInt32 31)).toInt32).toUInt32 >>> ((8 : Int32).toUInt32 &&& Int32.toUInt32 31)).toInt32).toUInt32 >>> ((1 : Int32).toUInt32 &&& Int32.toUInt32 31)).toInt32)) dJ6_numberOfTrailingZeros_0f7a4_79 (Eq.symm (show rJ6_numberOfTrailingZeros_0f7a4 p0 = (((1 : Int32) + (16 : Int32)) + (8 : Int32)) + (((((((mJ6_numberOfTrailingZeros_0f7a4_7 p0).toUInt32 >>> ((16 : Int32).toUInt32 &&& Int32.toUInt32 31)).toInt32).toUInt32 >>> ((8 : Int32).toUInt32 &&& Int32.toUInt32 31)).toInt32).toUInt32 >>> ((1 : Int32).toUInt32 &&& Int32.toUInt32 31)).toInt32) from (by unfold rJ6_numberOfTrailingZeros_0f7a4; exact ((if_pos c9).trans ((if_neg c23).trans ((if_neg c38).trans ((if_pos c52).trans (if_pos c64)))))))) rfl
          ·
            refine s_iinc X (pc := 67) (v := (((1 : Int32) + (16 : Int32)) + (8 : Int32)) + (2 : Int32)) (lv2 := [(1, .int ((((1 : Int32) + (16 : Int32)) + (8 : Int32)) + (2 : Int32))), (0, .int (((((mJ6_numberOfTrailingZeros_0f7a4_7 p0).toUInt32 >>> ((16 : Int32).toUInt32 &&& Int32.toUInt32 31)).toInt32).toUInt32 >>> ((8 : Int32).toUInt32 &&& Int32.toUInt32 31)).toInt32))]) 1 dJ6_numberOfTrailingZeros_0f7a4_67 rfl rfl (by decide) rfl ?_
            refine s_iload_n X (pc := 70) (x := ((((mJ6_numberOfTrailingZeros_0f7a4_7 p0).toUInt32 >>> ((16 : Int32).toUInt32 &&& Int32.toUInt32 31)).toInt32).toUInt32 >>> ((8 : Int32).toUInt32 &&& Int32.toUInt32 31)).toInt32) 1 dJ6_numberOfTrailingZeros_0f7a4_70 rfl ?_
            refine s_iconst X (pc := 71) (v := 2) dJ6_numberOfTrailingZeros_0f7a4_71 (by decide) ?_
            refine s_iushr X (pc := 72) dJ6_numberOfTrailingZeros_0f7a4_72 rfl ?_
            refine s_istore_n X (pc := 73) (i := 0) (lv2 := [(0, .int (((((((mJ6_numberOfTrailingZeros_0f7a4_7 p0).toUInt32 >>> ((16 : Int32).toUInt32 &&& Int32.toUInt32 31)).toInt32).toUInt32 >>> ((8 : Int32).toUInt32 &&& Int32.toUInt32 31)).toInt32).toUInt32 >>> ((2 : Int32).toUInt32 &&& Int32.toUInt32 31)).toInt32)), (1, .int ((((1 : Int32) + (16 : Int32)) + (8 : Int32)) + (2 : Int32)))]) dJ6_numberOfTrailingZeros_0f7a4_73 rfl (by decide) rfl ?_
            refine s_iload_n X (pc := 74) (x := (((1 : Int32) + (16 : Int32)) + (8 : Int32)) + (2 : Int32)) 1 dJ6_numberOfTrailingZeros_0f7a4_74 rfl ?_
            refine s_iload_n X (pc := 75) (x := ((((((mJ6_numberOfTrailingZeros_0f7a4_7 p0).toUInt32 >>> ((16 : Int32).toUInt32 &&& Int32.toUInt32 31)).toInt32).toUInt32 >>> ((8 : Int32).toUInt32 &&& Int32.toUInt32 31)).toInt32).toUInt32 >>> ((2 : Int32).toUInt32 &&& Int32.toUInt32 31)).toInt32) 0 dJ6_numberOfTrailingZeros_0f7a4_75 rfl ?_
            refine s_iconst X (pc := 76) (v := 1) dJ6_numberOfTrailingZeros_0f7a4_76 (by decide) ?_
            refine s_iushr X (pc := 77) dJ6_numberOfTrailingZeros_0f7a4_77 rfl ?_
            refine s_iadd X (pc := 78) dJ6_numberOfTrailingZeros_0f7a4_78 ?_
            exact s_iret X (pc := 79) (v := ((((1 : Int32) + (16 : Int32)) + (8 : Int32)) + (2 : Int32)) + (((((((((mJ6_numberOfTrailingZeros_0f7a4_7 p0).toUInt32 >>> ((16 : Int32).toUInt32 &&& Int32.toUInt32 31)).toInt32).toUInt32 >>> ((8 : Int32).toUInt32 &&& Int32.toUInt32 31)).toInt32).toUInt32 >>> ((2 : Int32).toUInt32 &&& Int32.toUInt32 31)).toInt32).toUInt32 >>> ((1 : Int32).toUInt32 &&& Int32.toUInt32 31)).toInt32)) dJ6_numberOfTrailingZeros_0f7a4_79 (Eq.symm (show rJ6_numberOfTrailingZeros_0f7a4 p0 = ((((1 : Int32) + (16 : Int32)) + (8 : Int32)) + (2 : Int32)) + (((((((((mJ6_numberOfTrailingZeros_0f7a4_7 p0).toUInt32 >>> ((16 : Int32).toUInt32 &&& Int32.toUInt32 31)).toInt32).toUInt32 >>> ((8 : Int32).toUInt32 &&& Int32.toUInt32 31)).toInt32).toUInt32 >>> ((2 : Int32).toUInt32 &&& Int32.toUInt32 31)).toInt32).toUInt32 >>> ((1 : Int32).toUInt32 &&& Int32.toUInt32 31)).toInt32) from (by unfold rJ6_numberOfTrailingZeros_0f7a4; exact ((if_pos c9).trans ((if_neg c23).trans ((if_neg c38).trans ((if_pos c52).trans (if_neg c64)))))))) rfl
        ·
          refine s_iinc X (pc := 55) (v := (((1 : Int32) + (16 : Int32)) + (8 : Int32)) + (4 : Int32)) (lv2 := [(1, .int ((((1 : Int32) + (16 : Int32)) + (8 : Int32)) + (4 : Int32))), (0, .int (((((mJ6_numberOfTrailingZeros_0f7a4_7 p0).toUInt32 >>> ((16 : Int32).toUInt32 &&& Int32.toUInt32 31)).toInt32).toUInt32 >>> ((8 : Int32).toUInt32 &&& Int32.toUInt32 31)).toInt32))]) 1 dJ6_numberOfTrailingZeros_0f7a4_55 rfl rfl (by decide) rfl ?_
          refine s_iload_n X (pc := 58) (x := ((((mJ6_numberOfTrailingZeros_0f7a4_7 p0).toUInt32 >>> ((16 : Int32).toUInt32 &&& Int32.toUInt32 31)).toInt32).toUInt32 >>> ((8 : Int32).toUInt32 &&& Int32.toUInt32 31)).toInt32) 1 dJ6_numberOfTrailingZeros_0f7a4_58 rfl ?_
          refine s_iconst X (pc := 59) (v := 4) dJ6_numberOfTrailingZeros_0f7a4_59 (by decide) ?_
          refine s_iushr X (pc := 60) dJ6_numberOfTrailingZeros_0f7a4_60 rfl ?_
          refine s_istore_n X (pc := 61) (i := 0) (lv2 := [(0, .int (((((((mJ6_numberOfTrailingZeros_0f7a4_7 p0).toUInt32 >>> ((16 : Int32).toUInt32 &&& Int32.toUInt32 31)).toInt32).toUInt32 >>> ((8 : Int32).toUInt32 &&& Int32.toUInt32 31)).toInt32).toUInt32 >>> ((4 : Int32).toUInt32 &&& Int32.toUInt32 31)).toInt32)), (1, .int ((((1 : Int32) + (16 : Int32)) + (8 : Int32)) + (4 : Int32)))]) dJ6_numberOfTrailingZeros_0f7a4_61 rfl (by decide) rfl ?_
          refine s_iload_n X (pc := 62) (x := ((((((mJ6_numberOfTrailingZeros_0f7a4_7 p0).toUInt32 >>> ((16 : Int32).toUInt32 &&& Int32.toUInt32 31)).toInt32).toUInt32 >>> ((8 : Int32).toUInt32 &&& Int32.toUInt32 31)).toInt32).toUInt32 >>> ((4 : Int32).toUInt32 &&& Int32.toUInt32 31)).toInt32) 0 dJ6_numberOfTrailingZeros_0f7a4_62 rfl ?_
          refine s_iconst X (pc := 63) (v := 4) dJ6_numberOfTrailingZeros_0f7a4_63 (by decide) ?_
          refine s_icmp_le X (pc := 64) (tgt := 74) dJ6_numberOfTrailingZeros_0f7a4_64 (by decide) (fun c64 => ?_) (fun c64 => ?_)
          ·
            refine s_iload_n X (pc := 74) (x := (((1 : Int32) + (16 : Int32)) + (8 : Int32)) + (4 : Int32)) 1 dJ6_numberOfTrailingZeros_0f7a4_74 rfl ?_
            refine s_iload_n X (pc := 75) (x := ((((((mJ6_numberOfTrailingZeros_0f7a4_7 p0).toUInt32 >>> ((16 : Int32).toUInt32 &&& Int32.toUInt32 31)).toInt32).toUInt32 >>> ((8 : Int32).toUInt32 &&& Int32.toUInt32 31)).toInt32).toUInt32 >>> ((4 : Int32).toUInt32 &&& Int32.toUInt32 31)).toInt32) 0 dJ6_numberOfTrailingZeros_0f7a4_75 rfl ?_
            refine s_iconst X (pc := 76) (v := 1) dJ6_numberOfTrailingZeros_0f7a4_76 (by decide) ?_
            refine s_iushr X (pc := 77) dJ6_numberOfTrailingZeros_0f7a4_77 rfl ?_
            refine s_iadd X (pc := 78) dJ6_numberOfTrailingZeros_0f7a4_78 ?_
            exact s_iret X (pc := 79) (v := ((((1 : Int32) + (16 : Int32)) + (8 : Int32)) + (4 : Int32)) + (((((((((mJ6_numberOfTrailingZeros_0f7a4_7 p0).toUInt32 >>> ((16 : Int32).toUInt32 &&& Int32.toUInt32 31)).toInt32).toUInt32 >>> ((8 : Int32).toUInt32 &&& Int32.toUInt32 31)).toInt32).toUInt32 >>> ((4 : Int32).toUInt32 &&& Int32.toUInt32 31)).toInt32).toUInt32 >>> ((1 : Int32).toUInt32 &&& Int32.toUInt32 31)).toInt32)) dJ6_numberOfTrailingZeros_0f7a4_79 (Eq.symm (show rJ6_numberOfTrailingZeros_0f7a4 p0 = ((((1 : Int32) + (16 : Int32)) + (8 : Int32)) + (4 : Int32)) + (((((((((mJ6_numberOfTrailingZeros_0f7a4_7 p0).toUInt32 >>> ((16 : Int32).toUInt32 &&& Int32.toUInt32 31)).toInt32).toUInt32 >>> ((8 : Int32).toUInt32 &&& Int32.toUInt32 31)).toInt32).toUInt32 >>> ((4 : Int32).toUInt32 &&& Int32.toUInt32 31)).toInt32).toUInt32 >>> ((1 : Int32).toUInt32 &&& Int32.toUInt32 31)).toInt32) from (by unfold rJ6_numberOfTrailingZeros_0f7a4; exact ((if_pos c9).trans ((if_neg c23).trans ((if_neg c38).trans ((if_neg c52).trans (if_pos c64)))))))) rfl
          ·
            refine s_iinc X (pc := 67) (v := ((((1 : Int32) + (16 : Int32)) + (8 : Int32)) + (4 : Int32)) + (2 : Int32)) (lv2 := [(1, .int (((((1 : Int32) + (16 : Int32)) + (8 : Int32)) + (4 : Int32)) + (2 : Int32))), (0, .int (((((((mJ6_numberOfTrailingZeros_0f7a4_7 p0).toUInt32 >>> ((16 : Int32).toUInt32 &&& Int32.toUInt32 31)).toInt32).toUInt32 >>> ((8 : Int32).toUInt32 &&& Int32.toUInt32 31)).toInt32).toUInt32 >>> ((4 : Int32).toUInt32 &&& Int32.toUInt32 31)).toInt32))]) 1 dJ6_numberOfTrailingZeros_0f7a4_67 rfl rfl (by decide) rfl ?_
            refine s_iload_n X (pc := 70) (x := ((((((mJ6_numberOfTrailingZeros_0f7a4_7 p0).toUInt32 >>> ((16 : Int32).toUInt32 &&& Int32.toUInt32 31)).toInt32).toUInt32 >>> ((8 : Int32).toUInt32 &&& Int32.toUInt32 31)).toInt32).toUInt32 >>> ((4 : Int32).toUInt32 &&& Int32.toUInt32 31)).toInt32) 1 dJ6_numberOfTrailingZeros_0f7a4_70 rfl ?_
            refine s_iconst X (pc := 71) (v := 2) dJ6_numberOfTrailingZeros_0f7a4_71 (by decide) ?_
            refine s_iushr X (pc := 72) dJ6_numberOfTrailingZeros_0f7a4_72 rfl ?_
            refine s_istore_n X (pc := 73) (i := 0) (lv2 := [(0, .int (((((((((mJ6_numberOfTrailingZeros_0f7a4_7 p0).toUInt32 >>> ((16 : Int32).toUInt32 &&& Int32.toUInt32 31)).toInt32).toUInt32 >>> ((8 : Int32).toUInt32 &&& Int32.toUInt32 31)).toInt32).toUInt32 >>> ((4 : Int32).toUInt32 &&& Int32.toUInt32 31)).toInt32).toUInt32 >>> ((2 : Int32).toUInt32 &&& Int32.toUInt32 31)).toInt32)), (1, .int (((((1 : Int32) + (16 : Int32)) + (8 : Int32)) + (4 : Int32)) + (2 : Int32)))]) dJ6_numberOfTrailingZeros_0f7a4_73 rfl (by decide) rfl ?_
            refine s_iload_n X (pc := 74) (x := ((((1 : Int32) + (16 : Int32)) + (8 : Int32)) + (4 : Int32)) + (2 : Int32)) 1 dJ6_numberOfTrailingZeros_0f7a4_74 rfl ?_
            refine s_iload_n X (pc := 75) (x := ((((((((mJ6_numberOfTrailingZeros_0f7a4_7 p0).toUInt32 >>> ((16 : Int32).toUInt32 &&& Int32.toUInt32 31)).toInt32).toUInt32 >>> ((8 : Int32).toUInt32 &&& Int32.toUInt32 31)).toInt32).toUInt32 >>> ((4 : Int32).toUInt32 &&& Int32.toUInt32 31)).toInt32).toUInt32 >>> ((2 : Int32).toUInt32 &&& Int32.toUInt32 31)).toInt32) 0 dJ6_numberOfTrailingZeros_0f7a4_75 rfl ?_
            refine s_iconst X (pc := 76) (v := 1) dJ6_numberOfTrailingZeros_0f7a4_76 (by decide) ?_
            refine s_iushr X (pc := 77) dJ6_numberOfTrailingZeros_0f7a4_77 rfl ?_
            refine s_iadd X (pc := 78) dJ6_numberOfTrailingZeros_0f7a4_78 ?_
            exact s_iret X (pc := 79) (v := (((((1 : Int32) + (16 : Int32)) + (8 : Int32)) + (4 : Int32)) + (2 : Int32)) + (((((((((((mJ6_numberOfTrailingZeros_0f7a4_7 p0).toUInt32 >>> ((16 : Int32).toUInt32 &&& Int32.toUInt32 31)).toInt32).toUInt32 >>> ((8 : Int32).toUInt32 &&& Int32.toUInt32 31)).toInt32).toUInt32 >>> ((4 : Int32).toUInt32 &&& Int32.toUInt32 31)).toInt32).toUInt32 >>> ((2 : Int32).toUInt32 &&& Int32.toUInt32 31)).toInt32).toUInt32 >>> ((1 : Int32).toUInt32 &&& Int32.toUInt32 31)).toInt32)) dJ6_numberOfTrailingZeros_0f7a4_79 (Eq.symm (show rJ6_numberOfTrailingZeros_0f7a4 p0 = (((((1 : Int32) + (16 : Int32)) + (8 : Int32)) + (4 : Int32)) + (2 : Int32)) + (((((((((((mJ6_numberOfTrailingZeros_0f7a4_7 p0).toUInt32 >>> ((16 : Int32).toUInt32 &&& Int32.toUInt32 31)).toInt32).toUInt32 >>> ((8 : Int32).toUInt32 &&& Int32.toUInt32 31)).toInt32).toUInt32 >>> ((4 : Int32).toUInt32 &&& Int32.toUInt32 31)).toInt32).toUInt32 >>> ((2 : Int32).toUInt32 &&& Int32.toUInt32 31)).toInt32).toUInt32 >>> ((1 : Int32).toUInt32 &&& Int32.toUInt32 31)).toInt32) from (by unfold rJ6_numberOfTrailingZeros_0f7a4; exact ((if_pos c9).trans ((if_neg c23).trans ((if_neg c38).trans ((if_neg c52).trans (if_neg c64)))))))) rfl
  ·
    refine s_iload_n X (pc := 12) (x := mJ6_numberOfTrailingZeros_0f7a4_7 p0) 0 dJ6_numberOfTrailingZeros_0f7a4_12 rfl ?_
    refine s_bipush X (pc := 13) (v := 32) dJ6_numberOfTrailingZeros_0f7a4_13 (by decide) ?_
    refine s_iand X (pc := 15) dJ6_numberOfTrailingZeros_0f7a4_15 ?_
    exact s_iret X (pc := 16) (v := (mJ6_numberOfTrailingZeros_0f7a4_7 p0) &&& (32 : Int32)) dJ6_numberOfTrailingZeros_0f7a4_16 (Eq.symm (show rJ6_numberOfTrailingZeros_0f7a4 p0 = (mJ6_numberOfTrailingZeros_0f7a4_7 p0) &&& (32 : Int32) from (by unfold rJ6_numberOfTrailingZeros_0f7a4; exact (if_neg c9)))) rfl
