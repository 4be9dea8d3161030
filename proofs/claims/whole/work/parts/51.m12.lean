theorem dn_lt {x : Int32} {n : Nat} (h : ¬ x < 0) (hm : (x.toInt + 1).toNat < n + 1) : ((x + (-1 : Int32)).toInt + 1).toNat < n := by
  obtain ⟨j, hj, rfl⟩ := nI_of h
  have e : (nI j + (-1 : Int32)).toInt = (j : Int) - 1 := by
    rw [Int32.toInt_add, nI_toInt hj]
    have e1 : (-1 : Int32).toInt = -1 := rfl
    rw [e1]
    apply Int.bmod_eq_of_le <;> omega
  rw [nI_toInt hj] at hm
  rw [e]
  omega
theorem dn_in {x : Int32} (h : ¬ x < 0) (h5 : x < 5) : -1 ≤ x + (-1 : Int32) ∧ x + (-1 : Int32) < 5 := by
  constructor <;> grind
theorem dn_0 {x : Int32} (h0 : 0 ≤ x) (h5 : x ≤ 5) : ((x - 1).toInt + 1).toNat < 6 := by
  obtain ⟨j, hj, rfl⟩ := nI_of (Int32.not_lt.mpr h0)
  have h := Int32.le_iff_toInt_le.mp h5
  have e5 : (5 : Int32).toInt = 5 := rfl
  rw [nI_toInt hj, e5] at h
  have e : (nI j - 1).toInt = (j : Int) - 1 := by
    rw [Int32.toInt_sub, nI_toInt hj]
    have e1 : (1 : Int32).toInt = 1 := rfl
    rw [e1]
    apply Int.bmod_eq_of_le <;> omega
  rw [e]
  omega
theorem up_lt' {x b : Int32} {n : Nat} (h : ¬ b ≤ x) (hm : (b.toInt - x.toInt).toNat < n + 1) : (b.toInt - (x + 1).toInt).toNat < n := up_lt (b := b) rfl (Int32.not_le.mp h) hm
theorem m_lt0 {x : Int32} : (x.toInt - (0 : Int32).toInt).toNat < x.toNatClampNeg + 1 := by
  have e0 : (0 : Int32).toInt = 0 := rfl
  by_cases h : 0 ≤ x
  · rw [clampInt h, e0]
    omega
  · have := Int32.lt_iff_toInt_lt.mp (Int32.not_le.mp h)
    omega
theorem ways0 {a9 : Nat → Int32} : ∀ k : Nat, k ≤ 5 → ∃ j : Nat, j ≤ 12 ^ k ∧ aX10_waysToBegin_4 a9 k = nI j := by
  intro k
  induction k with
  | zero => intro _; exact ⟨1, by decide, rfl⟩
  | succ k ih =>
    intro hk
    obtain ⟨j, hj, e⟩ := ih (by omega)
    rw [aX10_waysToBegin_4, e, Nat.pow_succ]
    split
    · exact ⟨j * 12, Nat.mul_le_mul_right _ hj, pk_mul j 12⟩
    · exact ⟨j * 1, by omega, pk_mul j 1⟩
theorem ways_le {a4 : Int32} {a9 : Nat → Int32} (ca : 0 ≤ a4) (cb : a4 ≤ 5) : ∃ j : Nat, j ≤ 248832 ∧ rX10_waysToBegin a4 a9 = nI j := by
  have hN := clampLe (n := 5) (b := 5) rfl ca cb
  obtain ⟨j, hj, e⟩ := ways0 (a9 := a9) _ hN
  exact ⟨j, Nat.le_trans hj (Nat.le_trans (Nat.pow_le_pow_right (by decide) hN) (by decide)), e⟩
theorem ways_e {a4 : Int32} {a9 : Nat → Int32} (ca : 0 ≤ a4) (cb : a4 ≤ 5) : (rX10_waysToBegin a4 a9).toInt = ((rX10_waysToBegin a4 a9).toNatClampNeg : Int) ∧ (rX10_waysToBegin a4 a9).toNatClampNeg ≤ 248832 := by
  obtain ⟨j, hj, e⟩ := ways_le (a9 := a9) ca cb
  rw [e, nI_toInt (by omega), nI_clamp (by omega)]
  exact ⟨rfl, hj⟩
theorem pos_of_k {x : Int32} {k : Nat} (h : k < x.toNatClampNeg) : 0 < x := by
  refine Classical.byContradiction fun q => ?_
  have a : x.toInt ≤ 0 := by
    have := Int32.le_iff_toInt_le.mp (Int32.not_lt.mp q)
    exact this
  have : x.toNatClampNeg = 0 := by
    rw [← Int32.toNat_toInt]
    omega
  omega

theorem iX10_beginBy_X10 : ∀ z ∈ wsX100, z ∈ wsX10_beginBy := fun z h => List.mem_cons_of_mem _ (List.mem_append_right _ h)
theorem kX10_beginBy_94 : Cond.fieldLink RX10 94 "BathingCourtModel" (TX10 4).2.1 (TX10 4).2.2.1 ∈ wsX10_beginBy := List.mem_of_getElem? (i := 1) rfl
theorem kX10_beginBy_62 : Cond.fieldLink RX10 62 "BathingCourtModel" (TX10 29).2.1 (TX10 29).2.2.1 ∈ wsX10_beginBy := List.mem_of_getElem? (i := 2) rfl
theorem kX10_beginBy_28 : Cond.fieldLink RX10 28 "BathingCourtModel" (TX10 9).2.1 (TX10 9).2.2.1 ∈ wsX10_beginBy := List.mem_of_getElem? (i := 3) rfl
theorem kX10_beginBy_19 : Cond.fieldLink RX10 19 "BathingCourtModel" (TX10 6).2.1 (TX10 6).2.2.1 ∈ wsX10_beginBy := List.mem_of_getElem? (i := 4) rfl
theorem kX10_beginBy_59 : Cond.fieldLink RX10 59 "BathingCourtModel" (TX10 28).2.1 (TX10 28).2.2.1 ∈ wsX10_beginBy := List.mem_of_getElem? (i := 5) rfl
def aX10_beginBy_13 (a6 a9 a28 : Nat → Int32) : Nat → Int32 → Int32 → Int32 → (Nat → Int32) → Int32 × Int32 × Int32 × Int32 × Int32 × (Nat → Int32)
  | 0, l3, l4, l5, t29 => ((0 : Int32), (0 : Int32), l3, l4, l5, t29)
  | n13 + 1, l3, l4, l5, t29 => if l5 < 0 then ((0 : Int32), (0 : Int32), l3, l4, l5, t29) else (if (a9 ((12 : Int32) + l5).toNatClampNeg) = 0 then (if (((((1 : Int32) <<< ((a6 l5.toNatClampNeg) &&& 31)) - (1 : Int32)) <<< ((l3 - l3 / (12 : Int32) * (12 : Int32)) &&& 31)) &&& ((a28 l5.toNatClampNeg) ^^^ (-1 : Int32))) = 0 then (if ((l3 - l3 / (12 : Int32) * (12 : Int32)) + (a6 l5.toNatClampNeg)) ≤ l4 then (aX10_beginBy_13 a6 a9 a28 n13 (l3 / (12 : Int32)) l4 (l5 + (-1 : Int32)) (upd (upd t29 l5.toNatClampNeg (-1 : Int32)) l5.toNatClampNeg (l3 - l3 / (12 : Int32) * (12 : Int32)))) else (aX10_beginBy_13 a6 a9 a28 n13 (l3 / (12 : Int32)) ((l3 - l3 / (12 : Int32) * (12 : Int32)) + (a6 l5.toNatClampNeg)) (l5 + (-1 : Int32)) (upd (upd t29 l5.toNatClampNeg (-1 : Int32)) l5.toNatClampNeg (l3 - l3 / (12 : Int32) * (12 : Int32))))) else ((1 : Int32), (100 : Int32), l3, l4, l5, upd (upd t29 l5.toNatClampNeg (-1 : Int32)) l5.toNatClampNeg (l3 - l3 / (12 : Int32) * (12 : Int32)))) else (aX10_beginBy_13 a6 a9 a28 n13 l3 l4 (l5 + (-1 : Int32)) (upd t29 l5.toNatClampNeg (-1 : Int32))))
def aX10_beginBy_158 (a4 : Int32) (a6 a9 a28 a29 : Nat → Int32) (p0 l5 : Int32) : Nat → Int32
  | 0 => (0 : Int32)
  | k158 + 1 => if (((aX10_beginBy_13 a6 a9 a28 6 p0 (0 : Int32) (a4 - (1 : Int32)) a29).2.2.2.2.2) (nI k158).toNatClampNeg) < 0 then ((aX10_beginBy_158 a4 a6 a9 a28 a29 p0 l5 k158) + (0 : Int32)) else (if (rX10_in l5.toInt64 ((((aX10_beginBy_13 a6 a9 a28 6 p0 (0 : Int32) (a4 - (1 : Int32)) a29).2.2.2.2.2) (nI k158).toNatClampNeg).toInt64) ((((((aX10_beginBy_13 a6 a9 a28 6 p0 (0 : Int32) (a4 - (1 : Int32)) a29).2.2.2.2.2) (nI k158).toNatClampNeg) + (a6 (nI k158).toNatClampNeg)) - (1 : Int32)).toInt64)) = 0 then ((aX10_beginBy_158 a4 a6 a9 a28 a29 p0 l5 k158) + (0 : Int32)) else ((aX10_beginBy_158 a4 a6 a9 a28 a29 p0 l5 k158) + (1 : Int32)))
def aX10_beginBy_145 (a4 : Int32) (a6 a9 a28 a29 : Nat → Int32) (p0 p1 : Int32) : Nat → Int32 → Int32 × Int32 × Int32
  | 0, l5 => ((0 : Int32), (0 : Int32), l5)
  | n145 + 1, l5 => if ((aX10_beginBy_13 a6 a9 a28 6 p0 (0 : Int32) (a4 - (1 : Int32)) a29).2.2.2.1) ≤ l5 then ((0 : Int32), (0 : Int32), l5) else (if (aX10_beginBy_158 a4 a6 a9 a28 a29 p0 l5 a4.toNatClampNeg) ≤ p1 then (aX10_beginBy_145 a4 a6 a9 a28 a29 p0 p1 n145 (l5 + (1 : Int32))) else ((1 : Int32), (100 : Int32), l5))
def rX10_beginBy (a4 : Int32) (a6 a9 a28 a29 : Nat → Int32) (p0 p1 : Int32) : Int32 := if (aX10_beginBy_13 a6 a9 a28 6 p0 (0 : Int32) (a4 - (1 : Int32)) a29).1 = 1 then ((aX10_beginBy_13 a6 a9 a28 6 p0 (0 : Int32) (a4 - (1 : Int32)) a29).2.1) else (if (aX10_beginBy_145 a4 a6 a9 a28 a29 p0 p1 (((aX10_beginBy_13 a6 a9 a28 6 p0 (0 : Int32) (a4 - (1 : Int32)) a29).2.2.2.1).toNatClampNeg + 1) (0 : Int32)).1 = 1 then ((aX10_beginBy_145 a4 a6 a9 a28 a29 p0 p1 (((aX10_beginBy_13 a6 a9 a28 6 p0 (0 : Int32) (a4 - (1 : Int32)) a29).2.2.2.1).toNatClampNeg + 1) (0 : Int32)).2.1) else ((aX10_beginBy_13 a6 a9 a28 6 p0 (0 : Int32) (a4 - (1 : Int32)) a29).2.2.2.1))
def sX10_beginBy_29 (a4 : Int32) (a6 a9 a28 a29 : Nat → Int32) (p0 p1 : Int32) : Nat → Int32 := if (aX10_beginBy_13 a6 a9 a28 6 p0 (0 : Int32) (a4 - (1 : Int32)) a29).1 = 1 then ((aX10_beginBy_13 a6 a9 a28 6 p0 (0 : Int32) (a4 - (1 : Int32)) a29).2.2.2.2.2) else (if (aX10_beginBy_145 a4 a6 a9 a28 a29 p0 p1 (((aX10_beginBy_13 a6 a9 a28 6 p0 (0 : Int32) (a4 - (1 : Int32)) a29).2.2.2.1).toNatClampNeg + 1) (0 : Int32)).1 = 1 then ((aX10_beginBy_13 a6 a9 a28 6 p0 (0 : Int32) (a4 - (1 : Int32)) a29).2.2.2.2.2) else ((aX10_beginBy_13 a6 a9 a28 6 p0 (0 : Int32) (a4 - (1 : Int32)) a29).2.2.2.2.2))
set_option maxRecDepth 100000 in
set_option maxHeartbeats 4000000 in
theorem c_X10_beginBy (l : Launch) (G : GT) (ad : Nat → Nat) (a0 : Int32) (a1 : Nat → Int32) (a2 : Int32) (a3 : Nat → Int32) (a4 : Int32) (a5 a6 a7 a8 a9 : Nat → Int32) (a10 : Int32) (a11 : Nat → Int32) (a12 a13 a14 a15 a16 a17 : Int32) (a18 : Nat → Int32) (a19 : Int32) (a20 : Nat → Int32) (a21 : Int32) (a22 a23 a24 a25 : Nat → Int32) (a26 : Int32) (a27 a28 a29 a30 : Nat → Int32) (a31 : Int32) (a32 a33 : Nat → Int32) (a34 : Int32) (a35 a36 a37 a38 : Nat → Int32) (p0 p1 : Int32) (ca : 0 ≤ a4) (cb : a4 ≤ 5) : Ci l G yX10_beginBy wsX10_beginBy (rmL 1) [.ref (ad 0), .int p0, .int p1] (wX10 G ad a0 a1 a2 a3 a4 a5 a6 a7 a8 a9 a10 a11 a12 a13 a14 a15 a16 a17 a18 a19 a20 a21 a22 a23 a24 a25 a26 a27 a28 a29 a30 a31 a32 a33 a34 a35 a36 a37 a38) (rX10_beginBy a4 a6 a9 a28 a29 p0 p1) (wX10 G ad a0 a1 a2 a3 a4 a5 a6 a7 a8 a9 a10 a11 a12 a13 a14 a15 a16 a17 a18 a19 a20 a21 a22 a23 a24 a25 a26 a27 a28 (sX10_beginBy_29 a4 a6 a9 a28 a29 p0 p1) a30 a31 a32 a33 a34 a35 a36 a37 a38) := by
  refine ci_start .int (by decide) rfl rfl (Nat.le_of_ble_eq_true rfl) ?_
  intro p e s m args below meth c A X
  have e4 := clampInt ca
  have hN4 := clampLe (n := 5) (b := 5) rfl ca cb
  refine s_perm (lv2 := [(0, .ref (ad 0)), (1, .int p0), (2, .int p1)]) [0, 1, 2] rfl ?_
  refine s_iload_n X (pc := 0) (x := p0) 1 dX10_beginBy_0 rfl ?_
  refine s_istore_n X (pc := 1) (i := 3) (lv2 := [(3, .int p0), (0, .ref (ad 0)), (1, .int p0), (2, .int p1)]) dX10_beginBy_1 rfl (by decide) rfl ?_
  refine s_iconst X (pc := 2) (v := 0) dX10_beginBy_2 (by decide) ?_
  refine s_istore X (pc := 3) (i := 4) (lv2 := [(4, .int (0 : Int32)), (3, .int p0), (0, .ref (ad 0)), (1, .int p0), (2, .int p1)]) dX10_beginBy_3 (by decide) rfl ?_
  refine s_aload_n X (pc := 5) (x := (ad 0)) 2 dX10_beginBy_5 rfl ?_
  refine s_get X (pc := 6) (v := .int a4) iX10_beginBy_X10 0 rfl rfl 4 (by decide) kX10_beginBy_94 rfl rfl dX10_beginBy_6 ?_
  refine s_iconst X (pc := 9) (v := 1) dX10_beginBy_9 (by decide) ?_
  refine s_isub X (pc := 10) dX10_beginBy_10 ?_
  refine s_istore X (pc := 11) (i := 5) (lv2 := [(5, .int (a4 - (1 : Int32))), (4, .int (0 : Int32)), (3, .int p0), (0, .ref (ad 0)), (1, .int p0), (2, .int p1)]) dX10_beginBy_11 (by decide) rfl ?_
  refine s_perm (lv2 := [(0, .ref (ad 0)), (1, .int p0), (2, .int p1), (3, .int p0), (4, .int (0 : Int32)), (5, .int (a4 - (1 : Int32)))]) [3, 4, 5, 2, 1, 0] rfl ?_
  have L13 : (∀ F13 : Int32 × Int32 × Int32 × Int32 × Int32 × (Nat → Int32), (aX10_beginBy_13 a6 a9 a28 6 p0 (0 : Int32) (a4 - (1 : Int32)) a29) = F13 → F13.1 = 0 → Sm p l e (rmL 1) s m args below meth c G A 8 0 0 (Qci below G A args s (rX10_beginBy a4 a6 a9 a28 a29 p0 p1) (wX10 G ad a0 a1 a2 a3 a4 a5 a6 a7 a8 a9 a10 a11 a12 a13 a14 a15 a16 a17 a18 a19 a20 a21 a22 a23 a24 a25 a26 a27 a28 (sX10_beginBy_29 a4 a6 a9 a28 a29 p0 p1) a30 a31 a32 a33 a34 a35 a36 a37 a38)) 142 [(0, .ref (ad 0)), (1, .int p0), (2, .int p1), (3, .int F13.2.2.1), (4, .int F13.2.2.2.1), (5, .int F13.2.2.2.2.1)] [] (wX10 G ad a0 a1 a2 a3 a4 a5 a6 a7 a8 a9 a10 a11 a12 a13 a14 a15 a16 a17 a18 a19 a20 a21 a22 a23 a24 a25 a26 a27 a28 F13.2.2.2.2.2 a30 a31 a32 a33 a34 a35 a36 a37 a38)) → ∀ (n13 : Nat) (l3 : Int32) (l4 : Int32) (l5 : Int32) (t29 : (Nat → Int32)), (-1 ≤ l5) → (l5 < 5) → (l5.toInt + 1).toNat < n13 → (aX10_beginBy_13 a6 a9 a28 6 p0 (0 : Int32) (a4 - (1 : Int32)) a29) = aX10_beginBy_13 a6 a9 a28 n13 l3 l4 l5 t29 → Sm p l e (rmL 1) s m args below meth c G A 8 0 0 (Qci below G A args s (rX10_beginBy a4 a6 a9 a28 a29 p0 p1) (wX10 G ad a0 a1 a2 a3 a4 a5 a6 a7 a8 a9 a10 a11 a12 a13 a14 a15 a16 a17 a18 a19 a20 a21 a22 a23 a24 a25 a26 a27 a28 (sX10_beginBy_29 a4 a6 a9 a28 a29 p0 p1) a30 a31 a32 a33 a34 a35 a36 a37 a38)) 13 [(0, .ref (ad 0)), (1, .int p0), (2, .int p1), (3, .int l3), (4, .int l4), (5, .int l5)] [] (wX10 G ad a0 a1 a2 a3 a4 a5 a6 a7 a8 a9 a10 a11 a12 a13 a14 a15 a16 a17 a18 a19 a20 a21 a22 a23 a24 a25 a26 a27 a28 t29 a30 a31 a32 a33 a34 a35 a36 a37 a38) := by
    intro E13 n13
    induction n13 with
    | zero => intro l3 l4 l5 t29 v0 v1 hm13 hv13; exact absurd hm13 (Nat.not_lt_zero _)
    | succ n13 ih13 =>
      intro l3 l4 l5 t29 v0 v1 hm13 hv13
      refine s_iload X (pc := 13) (x := l5) 5 dX10_beginBy_13 rfl ?_
      refine s_if_lt X (pc := 15) (tgt := 142) dX10_beginBy_15 (by decide) (fun c15 => ?_) (fun c15 => ?_)
      ·
        refine s_perm (lv2 := [(0, .ref (ad 0)), (1, .int p0), (2, .int p1), (3, .int l3), (4, .int l4), (5, .int l5)]) [0, 1, 2, 3, 4, 5] rfl ?_
        exact E13 ((0 : Int32), (0 : Int32), l3, l4, l5, t29) (hv13.trans (show aX10_beginBy_13 a6 a9 a28 (n13 + 1) l3 l4 l5 t29 = ((0 : Int32), (0 : Int32), l3, l4, l5, t29) from by rw [aX10_beginBy_13]; exact (if_pos c15))) rfl 
      ·
        refine s_aload_n X (pc := 18) (x := (ad 0)) 0 dX10_beginBy_18 rfl ?_
        refine s_get X (pc := 19) (v := .ref (ad 30)) iX10_beginBy_X10 0 rfl rfl 29 (by decide) kX10_beginBy_62 rfl rfl dX10_beginBy_19 ?_
        refine s_iload X (pc := 22) (x := l5) 5 dX10_beginBy_22 rfl ?_
        refine s_iconst X (pc := 24) (v := -1) dX10_beginBy_24 (by decide) ?_
        refine s_iast X (pc := 25) (n := 5) (f := t29) (w2 := wX10 G ad a0 a1 a2 a3 a4 a5 a6 a7 a8 a9 a10 a11 a12 a13 a14 a15 a16 a17 a18 a19 a20 a21 a22 a23 a24 a25 a26 a27 a28 (upd t29 l5.toNatClampNeg (-1 : Int32)) a30 a31 a32 a33 a34 a35 a36 a37 a38) 17 rfl (by first | with_reducible assumption | exact vin (b := 5) rfl (by grind) (by grind)) rfl dX10_beginBy_25 ?_
        refine s_aload_n X (pc := 26) (x := (ad 0)) 0 dX10_beginBy_26 rfl ?_
        refine s_get X (pc := 27) (v := .ref (ad 10)) iX10_beginBy_X10 0 rfl rfl 9 (by decide) kX10_beginBy_28 rfl rfl dX10_beginBy_27 ?_
        refine s_bipush X (pc := 30) (v := 12) dX10_beginBy_30 (by decide) ?_
        refine s_iload X (pc := 32) (x := l5) 5 dX10_beginBy_32 rfl ?_
        refine s_iadd X (pc := 34) dX10_beginBy_34 ?_
        refine s_iald X (pc := 35) (n := 23) (f := a9) 7 rfl (by first | with_reducible assumption | exact vin (b := 23) rfl (by grind) (by grind)) dX10_beginBy_35 ?_
        refine s_if_ne X (pc := 36) (tgt := 136) dX10_beginBy_36 (by decide) (fun c36 => ?_) (fun c36 => ?_)
        ·
          refine s_iinc X (pc := 136) (v := l5 + (-1 : Int32)) (lv2 := [(5, .int (l5 + (-1 : Int32))), (0, .ref (ad 0)), (1, .int p0), (2, .int p1), (3, .int l3), (4, .int l4)]) 5 dX10_beginBy_136 rfl rfl (by decide) rfl ?_
          refine s_goto X (pc := 139) (tgt := 13) dX10_beginBy_139 (by decide) ?_
          refine s_perm (lv2 := [(0, .ref (ad 0)), (1, .int p0), (2, .int p1), (3, .int l3), (4, .int l4), (5, .int (l5 + (-1 : Int32)))]) [1, 2, 3, 4, 5, 0] rfl ?_
          exact ih13 l3 l4 (l5 + (-1 : Int32)) (upd t29 l5.toNatClampNeg (-1 : Int32)) (dn_in c15 v1).1 (dn_in c15 v1).2 (dn_lt c15 hm13) (hv13.trans (show aX10_beginBy_13 a6 a9 a28 (n13 + 1) l3 l4 l5 t29 = aX10_beginBy_13 a6 a9 a28 n13 l3 l4 (l5 + (-1 : Int32)) (upd t29 l5.toNatClampNeg (-1 : Int32)) from by rw [aX10_beginBy_13]; exact ((if_neg c15).trans (if_neg c36))))
        ·
          refine s_aload_n X (pc := 39) (x := (ad 0)) 0 dX10_beginBy_39 rfl ?_
          refine s_get X (pc := 40) (v := .ref (ad 30)) iX10_beginBy_X10 0 rfl rfl 29 (by decide) kX10_beginBy_62 rfl rfl dX10_beginBy_40 ?_
          refine s_iload X (pc := 43) (x := l5) 5 dX10_beginBy_43 rfl ?_
          refine s_iload_n X (pc := 45) (x := l3) 3 dX10_beginBy_45 rfl ?_
          refine s_bipush X (pc := 46) (v := 12) dX10_beginBy_46 (by decide) ?_
          refine s_irem X (pc := 48) dX10_beginBy_48 (by decide) ?_
          refine s_iast X (pc := 49) (n := 5) (f := upd t29 l5.toNatClampNeg (-1 : Int32)) (w2 := wX10 G ad a0 a1 a2 a3 a4 a5 a6 a7 a8 a9 a10 a11 a12 a13 a14 a15 a16 a17 a18 a19 a20 a21 a22 a23 a24 a25 a26 a27 a28 (upd (upd t29 l5.toNatClampNeg (-1 : Int32)) l5.toNatClampNeg (l3 - l3 / (12 : Int32) * (12 : Int32))) a30 a31 a32 a33 a34 a35 a36 a37 a38) 17 rfl (by first | with_reducible assumption | exact vin (b := 5) rfl (by grind) (by grind)) rfl dX10_beginBy_49 ?_
          refine s_iload_n X (pc := 50) (x := l3) 3 dX10_beginBy_50 rfl ?_
          refine s_bipush X (pc := 51) (v := 12) dX10_beginBy_51 (by decide) ?_
          refine s_idiv X (pc := 53) dX10_beginBy_53 (by decide) ?_
          refine s_istore_n X (pc := 54) (i := 3) (lv2 := [(3, .int (l3 / (12 : Int32))), (0, .ref (ad 0)), (1, .int p0), (2, .int p1), (4, .int l4), (5, .int l5)]) dX10_beginBy_54 rfl (by decide) rfl ?_
          refine s_iconst X (pc := 55) (v := 1) dX10_beginBy_55 (by decide) ?_
          refine s_aload_n X (pc := 56) (x := (ad 0)) 1 dX10_beginBy_56 rfl ?_
          refine s_get X (pc := 57) (v := .ref (ad 7)) iX10_beginBy_X10 0 rfl rfl 6 (by decide) kX10_beginBy_19 rfl rfl dX10_beginBy_57 ?_
          refine s_iload X (pc := 60) (x := l5) 5 dX10_beginBy_60 rfl ?_
          refine s_iald X (pc := 62) (n := 5) (f := a6) 4 rfl (by first | with_reducible assumption | exact vin (b := 5) rfl (by grind) (by grind)) dX10_beginBy_62 ?_
          refine s_ishl X (pc := 63) dX10_beginBy_63 ?_
          refine s_iconst X (pc := 64) (v := 1) dX10_beginBy_64 (by decide) ?_
          refine s_isub X (pc := 65) dX10_beginBy_65 ?_
          refine s_aload_n X (pc := 66) (x := (ad 0)) 1 dX10_beginBy_66 rfl ?_
          refine s_get X (pc := 67) (v := .ref (ad 30)) iX10_beginBy_X10 0 rfl rfl 29 (by decide) kX10_beginBy_62 rfl rfl dX10_beginBy_67 ?_
          refine s_iload X (pc := 70) (x := l5) 5 dX10_beginBy_70 rfl ?_
          refine s_iald X (pc := 72) (n := 5) (f := upd (upd t29 l5.toNatClampNeg (-1 : Int32)) l5.toNatClampNeg (l3 - l3 / (12 : Int32) * (12 : Int32))) 17 rfl (by first | with_reducible assumption | exact vin (b := 5) rfl (by grind) (by grind)) dX10_beginBy_72 ?_
          refine s_topeq pk_us ?_
          refine s_ishl X (pc := 73) dX10_beginBy_73 ?_
          refine s_istore X (pc := 74) (i := 6) (lv2 := [(6, .int ((((1 : Int32) <<< ((a6 l5.toNatClampNeg) &&& 31)) - (1 : Int32)) <<< ((l3 - l3 / (12 : Int32) * (12 : Int32)) &&& 31))), (3, .int (l3 / (12 : Int32))), (0, .ref (ad 0)), (1, .int p0), (2, .int p1), (4, .int l4), (5, .int l5)]) dX10_beginBy_74 (by decide) rfl ?_
          refine s_iload X (pc := 76) (x := (((1 : Int32) <<< ((a6 l5.toNatClampNeg) &&& 31)) - (1 : Int32)) <<< ((l3 - l3 / (12 : Int32) * (12 : Int32)) &&& 31)) 0 dX10_beginBy_76 rfl ?_
          refine s_aload_n X (pc := 78) (x := (ad 0)) 2 dX10_beginBy_78 rfl ?_
          refine s_get X (pc := 79) (v := .ref (ad 29)) iX10_beginBy_X10 0 rfl rfl 28 (by decide) kX10_beginBy_59 rfl rfl dX10_beginBy_79 ?_
          refine s_iload X (pc := 82) (x := l5) 6 dX10_beginBy_82 rfl ?_
          refine s_iald X (pc := 84) (n := 5) (f := a28) 16 rfl (by first | with_reducible assumption | exact vin (b := 5) rfl (by grind) (by grind)) dX10_beginBy_84 ?_
          refine s_iconst X (pc := 85) (v := -1) dX10_beginBy_85 (by decide) ?_
          refine s_ixor X (pc := 86) dX10_beginBy_86 ?_
          refine s_iand X (pc := 87) dX10_beginBy_87 ?_
          refine s_if_eq X (pc := 88) (tgt := 94) dX10_beginBy_88 (by decide) (fun c88 => ?_) (fun c88 => ?_)
          ·
            refine s_aload_n X (pc := 94) (x := (ad 0)) 2 dX10_beginBy_94 rfl ?_
            refine s_get X (pc := 95) (v := .ref (ad 30)) iX10_beginBy_X10 0 rfl rfl 29 (by decide) kX10_beginBy_62 rfl rfl dX10_beginBy_95 ?_
            refine s_iload X (pc := 98) (x := l5) 6 dX10_beginBy_98 rfl ?_
            refine s_iald X (pc := 100) (n := 5) (f := upd (upd t29 l5.toNatClampNeg (-1 : Int32)) l5.toNatClampNeg (l3 - l3 / (12 : Int32) * (12 : Int32))) 17 rfl (by first | with_reducible assumption | exact vin (b := 5) rfl (by grind) (by grind)) dX10_beginBy_100 ?_
            refine s_topeq pk_us ?_
            refine s_aload_n X (pc := 101) (x := (ad 0)) 2 dX10_beginBy_101 rfl ?_
            refine s_get X (pc := 102) (v := .ref (ad 7)) iX10_beginBy_X10 0 rfl rfl 6 (by decide) kX10_beginBy_19 rfl rfl dX10_beginBy_102 ?_
            refine s_iload X (pc := 105) (x := l5) 6 dX10_beginBy_105 rfl ?_
            refine s_iald X (pc := 107) (n := 5) (f := a6) 4 rfl (by first | with_reducible assumption | exact vin (b := 5) rfl (by grind) (by grind)) dX10_beginBy_107 ?_
            refine s_iadd X (pc := 108) dX10_beginBy_108 ?_
            refine s_iload X (pc := 109) (x := l4) 5 dX10_beginBy_109 rfl ?_
            refine s_icmp_le X (pc := 111) (tgt := 132) dX10_beginBy_111 (by decide) (fun c111 => ?_) (fun c111 => ?_)
            ·
              refine s_iload X (pc := 132) (x := l4) 5 dX10_beginBy_132 rfl ?_
              refine s_istore X (pc := 134) (i := 4) (lv2 := [(4, .int l4), (6, .int ((((1 : Int32) <<< ((a6 l5.toNatClampNeg) &&& 31)) - (1 : Int32)) <<< ((l3 - l3 / (12 : Int32) * (12 : Int32)) &&& 31))), (3, .int (l3 / (12 : Int32))), (0, .ref (ad 0)), (1, .int p0), (2, .int p1), (5, .int l5)]) dX10_beginBy_134 (by decide) rfl ?_
              refine s_iinc X (pc := 136) (v := l5 + (-1 : Int32)) (lv2 := [(5, .int (l5 + (-1 : Int32))), (4, .int l4), (6, .int ((((1 : Int32) <<< ((a6 l5.toNatClampNeg) &&& 31)) - (1 : Int32)) <<< ((l3 - l3 / (12 : Int32) * (12 : Int32)) &&& 31))), (3, .int (l3 / (12 : Int32))), (0, .ref (ad 0)), (1, .int p0), (2, .int p1)]) 6 dX10_beginBy_136 rfl rfl (by decide) rfl ?_
              refine s_goto X (pc := 139) (tgt := 13) dX10_beginBy_139 (by decide) ?_
              refine s_perm (lv2 := [(0, .ref (ad 0)), (1, .int p0), (2, .int p1), (3, .int (l3 / (12 : Int32))), (4, .int l4), (5, .int (l5 + (-1 : Int32)))]) [4, 5, 6, 3, 1, 0] rfl ?_
              exact ih13 (l3 / (12 : Int32)) l4 (l5 + (-1 : Int32)) (upd (upd t29 l5.toNatClampNeg (-1 : Int32)) l5.toNatClampNeg (l3 - l3 / (12 : Int32) * (12 : Int32))) (dn_in c15 v1).1 (dn_in c15 v1).2 (dn_lt c15 hm13) (hv13.trans (show aX10_beginBy_13 a6 a9 a28 (n13 + 1) l3 l4 l5 t29 = aX10_beginBy_13 a6 a9 a28 n13 (l3 / (12 : Int32)) l4 (l5 + (-1 : Int32)) (upd (upd t29 l5.toNatClampNeg (-1 : Int32)) l5.toNatClampNeg (l3 - l3 / (12 : Int32) * (12 : Int32))) from by rw [aX10_beginBy_13]; exact ((if_neg c15).trans ((if_pos c36).trans ((if_pos c88).trans (if_pos c111))))))
            ·
              refine s_aload_n X (pc := 114) (x := (ad 0)) 2 dX10_beginBy_114 rfl ?_
              refine s_get X (pc := 115) (v := .ref (ad 30)) iX10_beginBy_X10 0 rfl rfl 29 (by decide) kX10_beginBy_62 rfl rfl dX10_beginBy_115 ?_
              refine s_iload X (pc := 118) (x := l5) 6 dX10_beginBy_118 rfl ?_
              refine s_iald X (pc := 120) (n := 5) (f := upd (upd t29 l5.toNatClampNeg (-1 : Int32)) l5.toNatClampNeg (l3 - l3 / (12 : Int32) * (12 : Int32))) 17 rfl (by first | with_reducible assumption | exact vin (b := 5) rfl (by grind) (by grind)) dX10_beginBy_120 ?_
              refine s_topeq pk_us ?_
              refine s_aload_n X (pc := 121) (x := (ad 0)) 2 dX10_beginBy_121 rfl ?_
              refine s_get X (pc := 122) (v := .ref (ad 7)) iX10_beginBy_X10 0 rfl rfl 6 (by decide) kX10_beginBy_19 rfl rfl dX10_beginBy_122 ?_
              refine s_iload X (pc := 125) (x := l5) 6 dX10_beginBy_125 rfl ?_
              refine s_iald X (pc := 127) (n := 5) (f := a6) 4 rfl (by first | with_reducible assumption | exact vin (b := 5) rfl (by grind) (by grind)) dX10_beginBy_127 ?_
              refine s_iadd X (pc := 128) dX10_beginBy_128 ?_
              refine s_goto X (pc := 129) (tgt := 134) dX10_beginBy_129 (by decide) ?_
              refine s_istore X (pc := 134) (i := 4) (lv2 := [(4, .int ((l3 - l3 / (12 : Int32) * (12 : Int32)) + (a6 l5.toNatClampNeg))), (6, .int ((((1 : Int32) <<< ((a6 l5.toNatClampNeg) &&& 31)) - (1 : Int32)) <<< ((l3 - l3 / (12 : Int32) * (12 : Int32)) &&& 31))), (3, .int (l3 / (12 : Int32))), (0, .ref (ad 0)), (1, .int p0), (2, .int p1), (5, .int l5)]) dX10_beginBy_134 (by decide) rfl ?_
              refine s_iinc X (pc := 136) (v := l5 + (-1 : Int32)) (lv2 := [(5, .int (l5 + (-1 : Int32))), (4, .int ((l3 - l3 / (12 : Int32) * (12 : Int32)) + (a6 l5.toNatClampNeg))), (6, .int ((((1 : Int32) <<< ((a6 l5.toNatClampNeg) &&& 31)) - (1 : Int32)) <<< ((l3 - l3 / (12 : Int32) * (12 : Int32)) &&& 31))), (3, .int (l3 / (12 : Int32))), (0, .ref (ad 0)), (1, .int p0), (2, .int p1)]) 6 dX10_beginBy_136 rfl rfl (by decide) rfl ?_
              refine s_goto X (pc := 139) (tgt := 13) dX10_beginBy_139 (by decide) ?_
              refine s_perm (lv2 := [(0, .ref (ad 0)), (1, .int p0), (2, .int p1), (3, .int (l3 / (12 : Int32))), (4, .int ((l3 - l3 / (12 : Int32) * (12 : Int32)) + (a6 l5.toNatClampNeg))), (5, .int (l5 + (-1 : Int32)))]) [4, 5, 6, 3, 1, 0] rfl ?_
              exact ih13 (l3 / (12 : Int32)) ((l3 - l3 / (12 : Int32) * (12 : Int32)) + (a6 l5.toNatClampNeg)) (l5 + (-1 : Int32)) (upd (upd t29 l5.toNatClampNeg (-1 : Int32)) l5.toNatClampNeg (l3 - l3 / (12 : Int32) * (12 : Int32))) (dn_in c15 v1).1 (dn_in c15 v1).2 (dn_lt c15 hm13) (hv13.trans (show aX10_beginBy_13 a6 a9 a28 (n13 + 1) l3 l4 l5 t29 = aX10_beginBy_13 a6 a9 a28 n13 (l3 / (12 : Int32)) ((l3 - l3 / (12 : Int32) * (12 : Int32)) + (a6 l5.toNatClampNeg)) (l5 + (-1 : Int32)) (upd (upd t29 l5.toNatClampNeg (-1 : Int32)) l5.toNatClampNeg (l3 - l3 / (12 : Int32) * (12 : Int32))) from by rw [aX10_beginBy_13]; exact ((if_neg c15).trans ((if_pos c36).trans ((if_pos c88).trans (if_neg c111))))))
          ·
            refine s_bipush X (pc := 91) (v := 100) dX10_beginBy_91 (by decide) ?_
            have hx13 : (aX10_beginBy_13 a6 a9 a28 6 p0 (0 : Int32) (a4 - (1 : Int32)) a29) = ((1 : Int32), (100 : Int32), l3, l4, l5, upd (upd t29 l5.toNatClampNeg (-1 : Int32)) l5.toNatClampNeg (l3 - l3 / (12 : Int32) * (12 : Int32))) := (hv13.trans (show aX10_beginBy_13 a6 a9 a28 (n13 + 1) l3 l4 l5 t29 = ((1 : Int32), (100 : Int32), l3, l4, l5, upd (upd t29 l5.toNatClampNeg (-1 : Int32)) l5.toNatClampNeg (l3 - l3 / (12 : Int32) * (12 : Int32))) from by rw [aX10_beginBy_13]; exact ((if_neg c15).trans ((if_pos c36).trans (if_neg c88)))))
            exact s_iret X (pc := 93) (v := (100 : Int32)) dX10_beginBy_93 (Eq.symm (show rX10_beginBy a4 a6 a9 a28 a29 p0 p1 = (100 : Int32) from (by unfold rX10_beginBy; exact (by rw [hx13]; exact if_pos rfl)))) (by rw [show sX10_beginBy_29 a4 a6 a9 a28 a29 p0 p1 = upd (upd t29 l5.toNatClampNeg (-1 : Int32)) l5.toNatClampNeg (l3 - l3 / (12 : Int32) * (12 : Int32)) from (by unfold sX10_beginBy_29; exact (by rw [hx13]; exact if_pos rfl))])
  refine L13 ?_ 6 p0 (0 : Int32) (a4 - (1 : Int32)) a29 (by grind) (by grind) (dn_0 ca cb) rfl
  intro F13 hF13 hE13 
  have hN13 : ¬ F13.1 = 1 := by rw [hE13]; decide
  refine s_iconst X (pc := 142) (v := 0) dX10_beginBy_142 (by decide) ?_
  refine s_istore X (pc := 143) (i := 5) (lv2 := [(5, .int (0 : Int32)), (0, .ref (ad 0)), (1, .int p0), (2, .int p1), (3, .int (F13.2.2.1)), (4, .int (F13.2.2.2.1))]) dX10_beginBy_143 (by decide) rfl ?_
  refine s_perm (lv2 := [(0, .ref (ad 0)), (1, .int p0), (2, .int p1), (3, .int (F13.2.2.1)), (4, .int (F13.2.2.2.1)), (5, .int (0 : Int32))]) [1, 2, 3, 4, 5, 0] rfl ?_
  have L145 : (∀ F145 : Int32 × Int32 × Int32, (aX10_beginBy_145 a4 a6 a9 a28 a29 p0 p1 ((F13.2.2.2.1).toNatClampNeg + 1) (0 : Int32)) = F145 → F145.1 = 0 → Sm p l e (rmL 1) s m args below meth c G A 8 0 0 (Qci below G A args s (rX10_beginBy a4 a6 a9 a28 a29 p0 p1) (wX10 G ad a0 a1 a2 a3 a4 a5 a6 a7 a8 a9 a10 a11 a12 a13 a14 a15 a16 a17 a18 a19 a20 a21 a22 a23 a24 a25 a26 a27 a28 (sX10_beginBy_29 a4 a6 a9 a28 a29 p0 p1) a30 a31 a32 a33 a34 a35 a36 a37 a38)) 243 [(0, .ref (ad 0)), (1, .int p0), (2, .int p1), (3, .int (F13.2.2.1)), (4, .int (F13.2.2.2.1)), (5, .int F145.2.2)] [] (wX10 G ad a0 a1 a2 a3 a4 a5 a6 a7 a8 a9 a10 a11 a12 a13 a14 a15 a16 a17 a18 a19 a20 a21 a22 a23 a24 a25 a26 a27 a28 (F13.2.2.2.2.2) a30 a31 a32 a33 a34 a35 a36 a37 a38)) → ∀ (n145 : Nat) (l5 : Int32), ((F13.2.2.2.1).toInt - l5.toInt).toNat < n145 → (aX10_beginBy_145 a4 a6 a9 a28 a29 p0 p1 ((F13.2.2.2.1).toNatClampNeg + 1) (0 : Int32)) = aX10_beginBy_145 a4 a6 a9 a28 a29 p0 p1 n145 l5 → Sm p l e (rmL 1) s m args below meth c G A 8 0 0 (Qci below G A args s (rX10_beginBy a4 a6 a9 a28 a29 p0 p1) (wX10 G ad a0 a1 a2 a3 a4 a5 a6 a7 a8 a9 a10 a11 a12 a13 a14 a15 a16 a17 a18 a19 a20 a21 a22 a23 a24 a25 a26 a27 a28 (sX10_beginBy_29 a4 a6 a9 a28 a29 p0 p1) a30 a31 a32 a33 a34 a35 a36 a37 a38)) 145 [(0, .ref (ad 0)), (1, .int p0), (2, .int p1), (3, .int (F13.2.2.1)), (4, .int (F13.2.2.2.1)), (5, .int l5)] [] (wX10 G ad a0 a1 a2 a3 a4 a5 a6 a7 a8 a9 a10 a11 a12 a13 a14 a15 a16 a17 a18 a19 a20 a21 a22 a23 a24 a25 a26 a27 a28 (F13.2.2.2.2.2) a30 a31 a32 a33 a34 a35 a36 a37 a38) := by
    intro E145 n145
    induction n145 with
    | zero => intro l5  hm145 hv145; exact absurd hm145 (Nat.not_lt_zero _)
    | succ n145 ih145 =>
      intro l5  hm145 hv145
      refine s_iload X (pc := 145) (x := l5) 5 dX10_beginBy_145 rfl ?_
      refine s_iload X (pc := 147) (x := F13.2.2.2.1) 4 dX10_beginBy_147 rfl ?_
      refine s_icmp_ge X (pc := 149) (tgt := 243) dX10_beginBy_149 (by decide) (fun c149 => ?_) (fun c149 => ?_)
      ·
        subst hF13
        refine s_perm (lv2 := [(0, .ref (ad 0)), (1, .int p0), (2, .int p1), (3, .int ((aX10_beginBy_13 a6 a9 a28 6 p0 (0 : Int32) (a4 - (1 : Int32)) a29).2.2.1)), (4, .int ((aX10_beginBy_13 a6 a9 a28 6 p0 (0 : Int32) (a4 - (1 : Int32)) a29).2.2.2.1)), (5, .int l5)]) [0, 1, 2, 3, 4, 5] rfl ?_
        exact E145 ((0 : Int32), (0 : Int32), l5) (hv145.trans (show aX10_beginBy_145 a4 a6 a9 a28 a29 p0 p1 (n145 + 1) l5 = ((0 : Int32), (0 : Int32), l5) from by rw [aX10_beginBy_145]; exact (if_pos c149))) rfl 
      ·
        refine s_iconst X (pc := 152) (v := 0) dX10_beginBy_152 (by decide) ?_
        refine s_istore X (pc := 153) (i := 6) (lv2 := [(6, .int (0 : Int32)), (0, .ref (ad 0)), (1, .int p0), (2, .int p1), (3, .int (F13.2.2.1)), (4, .int (F13.2.2.2.1)), (5, .int l5)]) dX10_beginBy_153 (by decide) rfl ?_
        refine s_iconst X (pc := 155) (v := 0) dX10_beginBy_155 (by decide) ?_
        refine s_istore X (pc := 156) (i := 7) (lv2 := [(7, .int (0 : Int32)), (6, .int (0 : Int32)), (0, .ref (ad 0)), (1, .int p0), (2, .int p1), (3, .int (F13.2.2.1)), (4, .int (F13.2.2.2.1)), (5, .int l5)]) dX10_beginBy_156 (by decide) rfl ?_
        refine s_perm (lv2 := [(0, .ref (ad 0)), (1, .int p0), (2, .int p1), (3, .int (F13.2.2.1)), (4, .int (F13.2.2.2.1)), (5, .int l5), (6, .int (0 : Int32)), (7, .int (0 : Int32))]) [2, 3, 4, 5, 6, 7, 1, 0] rfl ?_
        have L158 : ∀ (n158 k158 : Nat), k158 + n158 = a4.toNatClampNeg → Sm p l e (rmL 1) s m args below meth c G A 8 0 0 (Qci below G A args s (rX10_beginBy a4 a6 a9 a28 a29 p0 p1) (wX10 G ad a0 a1 a2 a3 a4 a5 a6 a7 a8 a9 a10 a11 a12 a13 a14 a15 a16 a17 a18 a19 a20 a21 a22 a23 a24 a25 a26 a27 a28 (sX10_beginBy_29 a4 a6 a9 a28 a29 p0 p1) a30 a31 a32 a33 a34 a35 a36 a37 a38)) 158 [(0, .ref (ad 0)), (1, .int p0), (2, .int p1), (3, .int (F13.2.2.1)), (4, .int (F13.2.2.2.1)), (5, .int l5), (6, .int (aX10_beginBy_158 a4 a6 a9 a28 a29 p0 l5 k158)), (7, .int (nI k158))] [] (wX10 G ad a0 a1 a2 a3 a4 a5 a6 a7 a8 a9 a10 a11 a12 a13 a14 a15 a16 a17 a18 a19 a20 a21 a22 a23 a24 a25 a26 a27 a28 (F13.2.2.2.2.2) a30 a31 a32 a33 a34 a35 a36 a37 a38) := by
          intro n158
          induction n158 with
          | zero =>
            intro k158 hk158
            have hK158 : k158 = a4.toNatClampNeg := by omega
            rw [hK158]
            have tk158 : (nI a4.toNatClampNeg).toInt = ((a4.toNatClampNeg : Nat) : Int) := nI_toInt (by omega)
            have eN158 : (a4).toInt = ((a4.toNatClampNeg : Nat) : Int) := e4
            refine s_iload X (pc := 158) (x := nI a4.toNatClampNeg) 7 dX10_beginBy_158 rfl ?_
            refine s_aload_n X (pc := 160) (x := (ad 0)) 0 dX10_beginBy_160 rfl ?_
            refine s_get X (pc := 161) (v := .int a4) iX10_beginBy_X10 0 rfl rfl 4 (by decide) kX10_beginBy_94 rfl rfl dX10_beginBy_161 ?_
            refine s_icmp_ge X (pc := 164) (tgt := 228) dX10_beginBy_164 (by decide) (fun c164 => ?_) (fun c164 => ?_)
            ·
              refine s_iload X (pc := 228) (x := (aX10_beginBy_158 a4 a6 a9 a28 a29 p0 l5 a4.toNatClampNeg)) 6 dX10_beginBy_228 rfl ?_
              refine s_iload_n X (pc := 230) (x := p1) 2 dX10_beginBy_230 rfl ?_
              refine s_icmp_le X (pc := 231) (tgt := 237) dX10_beginBy_231 (by decide) (fun c231 => ?_) (fun c231 => ?_)
              ·
                refine s_iinc X (pc := 237) (v := l5 + (1 : Int32)) (lv2 := [(5, .int (l5 + (1 : Int32))), (0, .ref (ad 0)), (1, .int p0), (2, .int p1), (3, .int (F13.2.2.1)), (4, .int (F13.2.2.2.1)), (6, .int (aX10_beginBy_158 a4 a6 a9 a28 a29 p0 l5 a4.toNatClampNeg)), (7, .int (nI a4.toNatClampNeg))]) 5 dX10_beginBy_237 rfl rfl (by decide) rfl ?_
                refine s_goto X (pc := 240) (tgt := 145) dX10_beginBy_240 (by decide) ?_
                subst hF13
                refine s_perm (lv2 := [(0, .ref (ad 0)), (1, .int p0), (2, .int p1), (3, .int ((aX10_beginBy_13 a6 a9 a28 6 p0 (0 : Int32) (a4 - (1 : Int32)) a29).2.2.1)), (4, .int ((aX10_beginBy_13 a6 a9 a28 6 p0 (0 : Int32) (a4 - (1 : Int32)) a29).2.2.2.1)), (5, .int (l5 + (1 : Int32)))]) [1, 2, 3, 4, 5, 0] rfl ?_
                exact ih145 (l5 + (1 : Int32)) (up_lt' c149 hm145) (hv145.trans (show aX10_beginBy_145 a4 a6 a9 a28 a29 p0 p1 (n145 + 1) l5 = aX10_beginBy_145 a4 a6 a9 a28 a29 p0 p1 n145 (l5 + (1 : Int32)) from by rw [aX10_beginBy_145]; exact ((if_neg c149).trans (if_pos c231))))
              ·
                refine s_bipush X (pc := 234) (v := 100) dX10_beginBy_234 (by decide) ?_
                subst hF13
                have hx145 : (aX10_beginBy_145 a4 a6 a9 a28 a29 p0 p1 (((aX10_beginBy_13 a6 a9 a28 6 p0 (0 : Int32) (a4 - (1 : Int32)) a29).2.2.2.1).toNatClampNeg + 1) (0 : Int32)) = ((1 : Int32), (100 : Int32), l5) := (hv145.trans (show aX10_beginBy_145 a4 a6 a9 a28 a29 p0 p1 (n145 + 1) l5 = ((1 : Int32), (100 : Int32), l5) from by rw [aX10_beginBy_145]; exact ((if_neg c149).trans (if_neg c231))))
                exact s_iret X (pc := 236) (v := (100 : Int32)) dX10_beginBy_236 (Eq.symm (show rX10_beginBy a4 a6 a9 a28 a29 p0 p1 = (100 : Int32) from (by unfold rX10_beginBy; exact ((if_neg hN13).trans (by rw [hx145]; exact if_pos rfl))))) (by rw [show sX10_beginBy_29 a4 a6 a9 a28 a29 p0 p1 = (aX10_beginBy_13 a6 a9 a28 6 p0 (0 : Int32) (a4 - (1 : Int32)) a29).2.2.2.2.2 from (by unfold sX10_beginBy_29; exact ((if_neg hN13).trans (by rw [hx145]; exact if_pos rfl)))])
            ·
              exact absurd ((t_le eN158 tk158).mpr (by omega)) c164
          | succ n158 ih158 =>
            intro k158 hk158
            have hlt158 : k158 < a4.toNatClampNeg := by omega
            have tk158 : (nI k158).toInt = ((k158 : Nat) : Int) := nI_toInt (by omega)
            have eN158 : (a4).toInt = ((a4.toNatClampNeg : Nat) : Int) := e4
            refine s_iload X (pc := 158) (x := nI k158) 7 dX10_beginBy_158 rfl ?_
            refine s_aload_n X (pc := 160) (x := (ad 0)) 0 dX10_beginBy_160 rfl ?_
            refine s_get X (pc := 161) (v := .int a4) iX10_beginBy_X10 0 rfl rfl 4 (by decide) kX10_beginBy_94 rfl rfl dX10_beginBy_161 ?_
            refine s_icmp_ge X (pc := 164) (tgt := 228) dX10_beginBy_164 (by decide) (fun c164 => ?_) (fun c164 => ?_)
            ·
              exact absurd ((t_le eN158 tk158).mp c164) (by omega)
            ·
              refine s_iload X (pc := 167) (x := (aX10_beginBy_158 a4 a6 a9 a28 a29 p0 l5 k158)) 6 dX10_beginBy_167 rfl ?_
              refine s_aload_n X (pc := 169) (x := (ad 0)) 0 dX10_beginBy_169 rfl ?_
              refine s_get X (pc := 170) (v := .ref (ad 30)) iX10_beginBy_X10 0 rfl rfl 29 (by decide) kX10_beginBy_62 rfl rfl dX10_beginBy_170 ?_
              refine s_iload X (pc := 173) (x := nI k158) 7 dX10_beginBy_173 rfl ?_
              refine s_iald X (pc := 175) (n := 5) (f := F13.2.2.2.2.2) 17 rfl (vp_in_nI (by omega) (by decide)) dX10_beginBy_175 ?_
              refine s_if_lt X (pc := 176) (tgt := 218) dX10_beginBy_176 (by decide) (fun c176 => ?_) (fun c176 => ?_)
              ·
                refine s_iconst X (pc := 218) (v := 0) dX10_beginBy_218 (by decide) ?_
                refine s_iadd X (pc := 219) dX10_beginBy_219 ?_
                refine s_istore X (pc := 220) (i := 6) (lv2 := [(6, .int ((aX10_beginBy_158 a4 a6 a9 a28 a29 p0 l5 k158) + (0 : Int32))), (0, .ref (ad 0)), (1, .int p0), (2, .int p1), (3, .int (F13.2.2.1)), (4, .int (F13.2.2.2.1)), (5, .int l5), (7, .int (nI k158))]) dX10_beginBy_220 (by decide) rfl ?_
                refine s_iinc X (pc := 222) (v := nI (k158 + 1)) (lv2 := [(7, .int (nI (k158 + 1))), (6, .int ((aX10_beginBy_158 a4 a6 a9 a28 a29 p0 l5 k158) + (0 : Int32))), (0, .ref (ad 0)), (1, .int p0), (2, .int p1), (3, .int (F13.2.2.1)), (4, .int (F13.2.2.2.1)), (5, .int l5)]) 7 dX10_beginBy_222 rfl (nI_1 _) (by decide) rfl ?_
                refine s_goto X (pc := 225) (tgt := 158) dX10_beginBy_225 (by decide) ?_
                subst hF13
                refine s_perm (lv2 := [(0, .ref (ad 0)), (1, .int p0), (2, .int p1), (3, .int ((aX10_beginBy_13 a6 a9 a28 6 p0 (0 : Int32) (a4 - (1 : Int32)) a29).2.2.1)), (4, .int ((aX10_beginBy_13 a6 a9 a28 6 p0 (0 : Int32) (a4 - (1 : Int32)) a29).2.2.2.1)), (5, .int l5), (6, .int ((aX10_beginBy_158 a4 a6 a9 a28 a29 p0 l5 k158) + (0 : Int32))), (7, .int (nI (k158 + 1)))]) [2, 3, 4, 5, 6, 7, 1, 0] rfl ?_
                have hb158 : (aX10_beginBy_158 a4 a6 a9 a28 a29 p0 l5 (k158 + 1)) = (aX10_beginBy_158 a4 a6 a9 a28 a29 p0 l5 k158) + (0 : Int32) := by rw [aX10_beginBy_158]; exact (if_pos c176)
                refine s_cast (lv2 := [(0, .ref (ad 0)), (1, .int p0), (2, .int p1), (3, .int ((aX10_beginBy_13 a6 a9 a28 6 p0 (0 : Int32) (a4 - (1 : Int32)) a29).2.2.1)), (4, .int ((aX10_beginBy_13 a6 a9 a28 6 p0 (0 : Int32) (a4 - (1 : Int32)) a29).2.2.2.1)), (5, .int l5), (6, .int (aX10_beginBy_158 a4 a6 a9 a28 a29 p0 l5 (k158 + 1))), (7, .int (nI (k158 + 1)))]) (w2 := wX10 G ad a0 a1 a2 a3 a4 a5 a6 a7 a8 a9 a10 a11 a12 a13 a14 a15 a16 a17 a18 a19 a20 a21 a22 a23 a24 a25 a26 a27 a28 ((aX10_beginBy_13 a6 a9 a28 6 p0 (0 : Int32) (a4 - (1 : Int32)) a29).2.2.2.2.2) a30 a31 a32 a33 a34 a35 a36 a37 a38) (by first | (rw [hb158]; done) | rfl) (by first | (rw [hb158]; done) | rfl) ?_
                exact ih158 (k158 + 1) (by omega)
              ·
                refine s_iload X (pc := 179) (x := l5) 5 dX10_beginBy_179 rfl ?_
                refine s_i2l X (pc := 181) dX10_beginBy_181 ?_
                refine s_aload_n X (pc := 182) (x := (ad 0)) 0 dX10_beginBy_182 rfl ?_
                refine s_get X (pc := 183) (v := .ref (ad 30)) iX10_beginBy_X10 0 rfl rfl 29 (by decide) kX10_beginBy_62 rfl rfl dX10_beginBy_183 ?_
                refine s_iload X (pc := 186) (x := nI k158) 7 dX10_beginBy_186 rfl ?_
                refine s_iald X (pc := 188) (n := 5) (f := F13.2.2.2.2.2) 17 rfl (vp_in_nI (by omega) (by decide)) dX10_beginBy_188 ?_
                refine s_i2l X (pc := 189) dX10_beginBy_189 ?_
                refine s_aload_n X (pc := 190) (x := (ad 0)) 0 dX10_beginBy_190 rfl ?_
                refine s_get X (pc := 191) (v := .ref (ad 30)) iX10_beginBy_X10 0 rfl rfl 29 (by decide) kX10_beginBy_62 rfl rfl dX10_beginBy_191 ?_
                refine s_iload X (pc := 194) (x := nI k158) 7 dX10_beginBy_194 rfl ?_
                refine s_iald X (pc := 196) (n := 5) (f := F13.2.2.2.2.2) 17 rfl (vp_in_nI (by omega) (by decide)) dX10_beginBy_196 ?_
                refine s_aload_n X (pc := 197) (x := (ad 0)) 0 dX10_beginBy_197 rfl ?_
                refine s_get X (pc := 198) (v := .ref (ad 7)) iX10_beginBy_X10 0 rfl rfl 6 (by decide) kX10_beginBy_19 rfl rfl dX10_beginBy_198 ?_
                refine s_iload X (pc := 201) (x := nI k158) 7 dX10_beginBy_201 rfl ?_
                refine s_iald X (pc := 203) (n := 5) (f := a6) 4 rfl (vp_in_nI (by omega) (by decide)) dX10_beginBy_203 ?_
                refine s_iadd X (pc := 204) dX10_beginBy_204 ?_
                refine s_iconst X (pc := 205) (v := 1) dX10_beginBy_205 (by decide) ?_
                refine s_isub X (pc := 206) dX10_beginBy_206 ?_
                refine s_i2l X (pc := 207) dX10_beginBy_207 ?_
                refine s_callSiN X (pc := 208) (r := rX10_in l5.toInt64 (((F13.2.2.2.2.2) (nI k158).toNatClampNeg).toInt64) (((((F13.2.2.2.2.2) (nI k158).toNatClampNeg) + (a6 (nI k158).toNatClampNeg)) - (1 : Int32)).toInt64)) (n := 3) (st := [.int (aX10_beginBy_158 a4 a6 a9 a28 a29 p0 l5 k158)]) (As := [.long l5.toInt64, .long (((F13.2.2.2.2.2) (nI k158).toNatClampNeg).toInt64), .long (((((F13.2.2.2.2.2) (nI k158).toNatClampNeg) + (a6 (nI k158).toNatClampNeg)) - (1 : Int32)).toInt64)]) 0 (c_X10_in l G l5.toInt64 (((F13.2.2.2.2.2) (nI k158).toNatClampNeg).toInt64) (((((F13.2.2.2.2.2) (nI k158).toNatClampNeg) + (a6 (nI k158).toNatClampNeg)) - (1 : Int32)).toInt64)) gX10_beginBy_X10_in rfl (by decide +kernel) ⟨Nat.le_of_ble_eq_true rfl, Nat.le_of_ble_eq_true rfl⟩ rfl rfl (Nat.le_of_ble_eq_true rfl) (Nat.zero_le _) (Nat.zero_le _) dX10_beginBy_208 ?_
                refine s_if_eq X (pc := 211) (tgt := 218) dX10_beginBy_211 (by decide) (fun c211 => ?_) (fun c211 => ?_)
                ·
                  refine s_iconst X (pc := 218) (v := 0) dX10_beginBy_218 (by decide) ?_
                  refine s_iadd X (pc := 219) dX10_beginBy_219 ?_
                  refine s_istore X (pc := 220) (i := 6) (lv2 := [(6, .int ((aX10_beginBy_158 a4 a6 a9 a28 a29 p0 l5 k158) + (0 : Int32))), (0, .ref (ad 0)), (1, .int p0), (2, .int p1), (3, .int (F13.2.2.1)), (4, .int (F13.2.2.2.1)), (5, .int l5), (7, .int (nI k158))]) dX10_beginBy_220 (by decide) rfl ?_
                  refine s_iinc X (pc := 222) (v := nI (k158 + 1)) (lv2 := [(7, .int (nI (k158 + 1))), (6, .int ((aX10_beginBy_158 a4 a6 a9 a28 a29 p0 l5 k158) + (0 : Int32))), (0, .ref (ad 0)), (1, .int p0), (2, .int p1), (3, .int (F13.2.2.1)), (4, .int (F13.2.2.2.1)), (5, .int l5)]) 7 dX10_beginBy_222 rfl (nI_1 _) (by decide) rfl ?_
                  refine s_goto X (pc := 225) (tgt := 158) dX10_beginBy_225 (by decide) ?_
                  subst hF13
                  refine s_perm (lv2 := [(0, .ref (ad 0)), (1, .int p0), (2, .int p1), (3, .int ((aX10_beginBy_13 a6 a9 a28 6 p0 (0 : Int32) (a4 - (1 : Int32)) a29).2.2.1)), (4, .int ((aX10_beginBy_13 a6 a9 a28 6 p0 (0 : Int32) (a4 - (1 : Int32)) a29).2.2.2.1)), (5, .int l5), (6, .int ((aX10_beginBy_158 a4 a6 a9 a28 a29 p0 l5 k158) + (0 : Int32))), (7, .int (nI (k158 + 1)))]) [2, 3, 4, 5, 6, 7, 1, 0] rfl ?_
                  have hb158 : (aX10_beginBy_158 a4 a6 a9 a28 a29 p0 l5 (k158 + 1)) = (aX10_beginBy_158 a4 a6 a9 a28 a29 p0 l5 k158) + (0 : Int32) := by rw [aX10_beginBy_158]; exact ((if_neg c176).trans (if_pos c211))
                  refine s_cast (lv2 := [(0, .ref (ad 0)), (1, .int p0), (2, .int p1), (3, .int ((aX10_beginBy_13 a6 a9 a28 6 p0 (0 : Int32) (a4 - (1 : Int32)) a29).2.2.1)), (4, .int ((aX10_beginBy_13 a6 a9 a28 6 p0 (0 : Int32) (a4 - (1 : Int32)) a29).2.2.2.1)), (5, .int l5), (6, .int (aX10_beginBy_158 a4 a6 a9 a28 a29 p0 l5 (k158 + 1))), (7, .int (nI (k158 + 1)))]) (w2 := wX10 G ad a0 a1 a2 a3 a4 a5 a6 a7 a8 a9 a10 a11 a12 a13 a14 a15 a16 a17 a18 a19 a20 a21 a22 a23 a24 a25 a26 a27 a28 ((aX10_beginBy_13 a6 a9 a28 6 p0 (0 : Int32) (a4 - (1 : Int32)) a29).2.2.2.2.2) a30 a31 a32 a33 a34 a35 a36 a37 a38) (by first | (rw [hb158]; done) | rfl) (by first | (rw [hb158]; done) | rfl) ?_
                  exact ih158 (k158 + 1) (by omega)
                ·
                  refine s_iconst X (pc := 214) (v := 1) dX10_beginBy_214 (by decide) ?_
                  refine s_goto X (pc := 215) (tgt := 219) dX10_beginBy_215 (by decide) ?_
                  refine s_iadd X (pc := 219) dX10_beginBy_219 ?_
                  refine s_istore X (pc := 220) (i := 6) (lv2 := [(6, .int ((aX10_beginBy_158 a4 a6 a9 a28 a29 p0 l5 k158) + (1 : Int32))), (0, .ref (ad 0)), (1, .int p0), (2, .int p1), (3, .int (F13.2.2.1)), (4, .int (F13.2.2.2.1)), (5, .int l5), (7, .int (nI k158))]) dX10_beginBy_220 (by decide) rfl ?_
                  refine s_iinc X (pc := 222) (v := nI (k158 + 1)) (lv2 := [(7, .int (nI (k158 + 1))), (6, .int ((aX10_beginBy_158 a4 a6 a9 a28 a29 p0 l5 k158) + (1 : Int32))), (0, .ref (ad 0)), (1, .int p0), (2, .int p1), (3, .int (F13.2.2.1)), (4, .int (F13.2.2.2.1)), (5, .int l5)]) 7 dX10_beginBy_222 rfl (nI_1 _) (by decide) rfl ?_
                  refine s_goto X (pc := 225) (tgt := 158) dX10_beginBy_225 (by decide) ?_
                  subst hF13
                  refine s_perm (lv2 := [(0, .ref (ad 0)), (1, .int p0), (2, .int p1), (3, .int ((aX10_beginBy_13 a6 a9 a28 6 p0 (0 : Int32) (a4 - (1 : Int32)) a29).2.2.1)), (4, .int ((aX10_beginBy_13 a6 a9 a28 6 p0 (0 : Int32) (a4 - (1 : Int32)) a29).2.2.2.1)), (5, .int l5), (6, .int ((aX10_beginBy_158 a4 a6 a9 a28 a29 p0 l5 k158) + (1 : Int32))), (7, .int (nI (k158 + 1)))]) [2, 3, 4, 5, 6, 7, 1, 0] rfl ?_
                  have hb158 : (aX10_beginBy_158 a4 a6 a9 a28 a29 p0 l5 (k158 + 1)) = (aX10_beginBy_158 a4 a6 a9 a28 a29 p0 l5 k158) + (1 : Int32) := by rw [aX10_beginBy_158]; exact ((if_neg c176).trans (if_neg c211))
                  refine s_cast (lv2 := [(0, .ref (ad 0)), (1, .int p0), (2, .int p1), (3, .int ((aX10_beginBy_13 a6 a9 a28 6 p0 (0 : Int32) (a4 - (1 : Int32)) a29).2.2.1)), (4, .int ((aX10_beginBy_13 a6 a9 a28 6 p0 (0 : Int32) (a4 - (1 : Int32)) a29).2.2.2.1)), (5, .int l5), (6, .int (aX10_beginBy_158 a4 a6 a9 a28 a29 p0 l5 (k158 + 1))), (7, .int (nI (k158 + 1)))]) (w2 := wX10 G ad a0 a1 a2 a3 a4 a5 a6 a7 a8 a9 a10 a11 a12 a13 a14 a15 a16 a17 a18 a19 a20 a21 a22 a23 a24 a25 a26 a27 a28 ((aX10_beginBy_13 a6 a9 a28 6 p0 (0 : Int32) (a4 - (1 : Int32)) a29).2.2.2.2.2) a30 a31 a32 a33 a34 a35 a36 a37 a38) (by first | (rw [hb158]; done) | rfl) (by first | (rw [hb158]; done) | rfl) ?_
                  exact ih158 (k158 + 1) (by omega)
        exact L158 a4.toNatClampNeg 0 (Nat.zero_add _)
  refine L145 ?_ ((F13.2.2.2.1).toNatClampNeg + 1) (0 : Int32) m_lt0 rfl
  intro F145 hF145 hE145 
  have hN145 : ¬ F145.1 = 1 := by rw [hE145]; decide
  refine s_iload X (pc := 243) (x := F13.2.2.2.1) 4 dX10_beginBy_243 rfl ?_
  subst hF13
  subst hF145
  exact s_iret X (pc := 245) (v := (aX10_beginBy_13 a6 a9 a28 6 p0 (0 : Int32) (a4 - (1 : Int32)) a29).2.2.2.1) dX10_beginBy_245 (Eq.symm (show rX10_beginBy a4 a6 a9 a28 a29 p0 p1 = (aX10_beginBy_13 a6 a9 a28 6 p0 (0 : Int32) (a4 - (1 : Int32)) a29).2.2.2.1 from (by unfold rX10_beginBy; exact ((if_neg hN13).trans (if_neg hN145))))) (by rw [show sX10_beginBy_29 a4 a6 a9 a28 a29 p0 p1 = (aX10_beginBy_13 a6 a9 a28 6 p0 (0 : Int32) (a4 - (1 : Int32)) a29).2.2.2.2.2 from (by unfold sX10_beginBy_29; exact ((if_neg hN13).trans (if_neg hN145)))])
