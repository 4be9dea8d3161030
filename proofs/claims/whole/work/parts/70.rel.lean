/-! the relation between the court and the reference, object by object -/
def RT (rd0 : Nat → Int32) (rd2 : Int32) (a11 : Nat → Int32) (a12 : Int32) : Prop := rd2 = a12 ∧ 0 ≤ a12 ∧ a12 ≤ 240 ∧ ∀ j : Nat, j < a12.toNatClampNeg → rd0 j = a11 j ∧ 0 ≤ a11 j
def RB (sh0 sh1 sh2 sh3 sh4 sh5 : Nat → Int32) (sh6 sh7 sh8 a0 : Int32) (a1 : Nat → Int32) (a2 : Int32) (a3 : Nat → Int32) (a4 : Int32) (a5 a6 a7 a8 : Nat → Int32) : Prop :=
  (sh6 = a0 ∧ sh7 = a2 ∧ sh8 = a4) ∧ (0 ≤ a0 ∧ a0 ≤ 12) ∧ (0 ≤ a2 ∧ a2 ≤ 4) ∧ (0 ≤ a4 ∧ a4 ≤ 5) ∧ (0 < a2 → 0 < a0) ∧ (0 < a4 → 0 < a0) ∧
  (∀ j : Nat, j < a0.toNatClampNeg → sh0 j = a1 j ∧ 0 ≤ a1 j ∧ a1 j ≤ 9) ∧ (∀ j : Nat, j < a2.toNatClampNeg → sh1 j = a3 j ∧ 1 ≤ a3 j ∧ a3 j ≤ 9) ∧
  ∀ j : Nat, j < a4.toNatClampNeg → (sh2 j = a5 j ∧ 1 ≤ a5 j ∧ a5 j ≤ 9) ∧ (sh3 j = a6 j ∧ 1 ≤ a6 j ∧ a6 j ≤ 4) ∧ (sh4 j = a7 j ∧ 0 ≤ a7 j ∧ a7 j ≤ 9) ∧ (sh5 j = a8 j ∧ 0 ≤ a8 j ∧ a8 j ≤ 999)
def RD (dy0 dy1 dy2 dy3 dy4 : Nat → Int32) (dy5 : Int32) (f : Nat → Int32) : Prop :=
  (∀ j : Nat, j < 4 → dy0 j = f j) ∧ (∀ j : Nat, j < 4 → dy1 j = f (4 + j)) ∧ (∀ j : Nat, j < 4 → dy2 j = f (8 + j)) ∧ (∀ j : Nat, j < 5 → dy3 j = f (12 + j)) ∧ (∀ j : Nat, j < 5 → dy4 j = f (17 + j)) ∧ dy5 = f 22
/-- what holds of a row that tells how all is; hu huts, ca cases, hours at most b -/
def DI (hu ca : Nat) (b : Int) (f : Nat → Int32) : Prop :=
  (0 ≤ f 22 ∧ (f 22).toInt ≤ b) ∧ (∀ j : Nat, j < 4 → 0 ≤ f j ∧ f j ≤ 9) ∧ (∀ j : Nat, j < 4 → f (4 + j) = -1 ∨ ∃ c : Nat, c < ca ∧ f (4 + j) = nI c ∧ f (12 + c) = 1) ∧
  (∀ j : Nat, j < 4 → hu ≤ j → f (4 + j) = -1) ∧ (∀ i j : Nat, i < 4 → j < 4 → f (4 + i) = f (4 + j) → f (4 + i) ≠ -1 → i = j) ∧ (∀ j : Nat, j < 4 → f (8 + j) = 0 ∨ f (8 + j) = 1) ∧
  ∀ c : Nat, c < 5 → 0 ≤ f (12 + c) ∧ f (12 + c) ≤ 4
def RE (er0 er1 : Nat → Int32) (er2 a31 : Int32) (a32 a33 : Nat → Int32) : Prop := er2 = a31 ∧ 0 ≤ a31 ∧ a31 ≤ 6 ∧ ∀ j : Nat, j < a31.toNatClampNeg → er0 j = a32 j ∧ er1 j = a33 j
def RK (ca : Nat) (bk0 bk1 : Nat → Int32) (bk2 a34 : Int32) (a35 a36 : Nat → Int32) : Prop := bk2 = a34 ∧ 0 ≤ a34 ∧ a34 ≤ 15 ∧ ∀ j : Nat, j < a34.toNatClampNeg → bk0 j = a35 j ∧ bk1 j = a36 j ∧ 0 ≤ a35 j ∧ (a35 j).toNatClampNeg < ca
def RP (hu ca : Nat) (pa0 : Nat → Int32) (pa1 pa2 a26 : Int32) (a27 : Nat → Int32) : Prop :=
  pa2 = a26 ∧ 0 ≤ a26 ∧ a26 ≤ 20 ∧ 0 ≤ pa1 ∧ pa1 < 20 ∧ ∀ i : Nat, i < a26.toNatClampNeg → (∀ k : Nat, k < 23 → pa0 (23 * ((pa1.toNatClampNeg + 20 - i) % 20) + k) = a27 (23 * (a26.toNatClampNeg - 1 - i) + k)) ∧ DI hu ca 9060 (fun k => a27 (23 * (a26.toNatClampNeg - 1 - i) + k))
def RI (hu ca : Nat) (im0 im1 im2 a37 a38 : Nat → Int32) : Prop :=
  ∀ i : Nat, i < 2 → im2 i = a38 i ∧ (a38 i = 0 ∨ a38 i = 1) ∧ (a38 i = 1 → (∀ k : Nat, k < 23 → im0 (23 * i + k) = a37 (24 * i + k)) ∧ im1 i = a37 (24 * i + 23) ∧ 0 ≤ a37 (24 * i + 23) ∧ DI hu ca 9060 (fun k => a37 (24 * i + k)))
theorem hut_iff {n x : Int32} (h0 : 0 ≤ n) (h4 : n ≤ 4) : rX10_isHut n x = 0 ↔ rX0_hasHut n x = 0 := by
  unfold rX10_isHut rX0_hasHut
  have h := in32 x 0 (n - 1)
  constructor
  · intro q
    have q := h.mp q
    grind
  · intro q
    refine h.mpr ?_
    grind
theorem case_iff {n x : Int32} (h0 : 0 ≤ n) (h4 : n ≤ 5) : rX10_isCase n x = 0 ↔ rX0_hasCase n x = 0 := by
  unfold rX10_isCase rX0_hasCase
  have h := in32 x 0 (n - 1)
  constructor
  · intro q
    have q := h.mp q
    grind
  · intro q
    refine h.mpr ?_
    grind
theorem hut_ok {n x : Int32} (h4 : n ≤ 4) (h : ¬ rX0_hasHut n x = 0) : 0 ≤ x ∧ x.toNatClampNeg < n.toNatClampNeg ∧ x.toNatClampNeg < 4 := by
  have q := hasHut_i h
  have e1 := clampInt q.1
  have e2 := clampInt (Int32.le_trans q.1 (Int32.le_of_lt q.2))
  have h1 := Int32.lt_iff_toInt_lt.mp q.2
  have h2 := clampLe (n := 4) (b := 4) rfl (Int32.le_trans q.1 (Int32.le_of_lt q.2)) h4
  rw [e1, e2] at h1
  exact ⟨q.1, by omega, by omega⟩
theorem case_ok {n x : Int32} (h5 : n ≤ 5) (h : ¬ rX0_hasCase n x = 0) : 0 ≤ x ∧ x.toNatClampNeg < n.toNatClampNeg ∧ x.toNatClampNeg < 5 := by
  have q := hasCase_i h
  have e1 := clampInt q.1
  have e2 := clampInt (Int32.le_trans q.1 (Int32.le_of_lt q.2))
  have h1 := Int32.lt_iff_toInt_lt.mp q.2
  have h2 := clampLe (n := 5) (b := 5) rfl (Int32.le_trans q.1 (Int32.le_of_lt q.2)) h5
  rw [e1, e2] at h1
  exact ⟨q.1, by omega, by omega⟩
theorem out_iff {x a b : Int32} {a' b' : Int64} (ha : a.toInt64 = a') (hb : b.toInt64 = b') : rX10_in x.toInt64 a' b' = 0 ↔ ¬ rX9_isOutside x a b = 0 := by
  subst ha; subst hb
  rw [in32, isO]
theorem cell_iff {x : Int32} : rX10_isCell x = 0 ↔ ¬ rX9_isNoCell x = 0 := out_iff rfl rfl
theorem ixL (c : Nat) {x : Int32} (h0 : 0 ≤ x) (hx : x.toNatClampNeg < 1000) (hc : c ≤ 1000) : (nI c + x).toNatClampNeg = c + x.toNatClampNeg := ixA c h0 (by omega)
theorem stands_iff {n : Int32} (h : 0 ≤ n) : rX0_stands n = 0 ↔ n = 0 := by
  unfold rX0_stands
  constructor
  · intro q
    grind
  · intro q
    subst q
    rfl
theorem stands_pos {n : Int32} (h : ¬ rX0_stands n = 0) : 0 < n := by
  unfold rX0_stands at h
  grind
/-- a depth, here and there -/
theorem dep_eq {sh0 a1 a9 : Nat → Int32} {a0 x n h : Int32} (tp : 0 < a0) (t12 : a0 ≤ 12) (hT : ∀ j : Nat, j < a0.toNatClampNeg → sh0 j = a1 j ∧ 0 ≤ a1 j ∧ a1 j ≤ 9) (hh : h = a9 22 + n) (h0 : 0 ≤ h) : rX0_depthAt sh0 a0 x h = rX10_depthBehind a0 a1 a9 x n := by
  subst hh
  have hr : ((a9 22 + n) - (a9 22 + n) / a0 * a0).toNatClampNeg < a0.toNatClampNeg := by
    obtain ⟨i, hi, e⟩ := nI_of (Int32.not_lt.mpr h0)
    obtain ⟨d, hd, rfl⟩ := nI_of (Int32.not_lt.mpr (Int32.le_of_lt tp))
    have d0 : 0 < d := by
      have := Int32.lt_iff_toInt_lt.mp tp
      rw [nI_toInt hd] at this
      exact Int.natCast_pos.mp this
    rw [e]
    rw [pk_rem hi d0 hd, nI_clamp (Nat.lt_trans (Nat.mod_lt _ d0) hd), nI_clamp hd]
    exact Nat.mod_lt _ d0
  have e := (hT _ hr).1
  unfold rX0_depthAt rX10_depthBehind
  rw [if_neg (Int32.not_le.mpr tp), if_pos h0]
  rw [e]
  split
  · rename_i q
    rw [if_neg (Int32.not_le.mpr q)]
  · rename_i q
    rw [if_pos (Int32.not_lt.mp q)]
