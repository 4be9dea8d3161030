theorem cl_nI (x : Int32) (h0 : 0 ≤ x) : x = nI (x.toNatClampNeg) := clampEq h0
/-- a depth at which a case can be told -/
def okd (d n m : Int32) : Prop := n ≤ d ∧ d ≤ n + m
theorem suit15 {s0 s2 s4 : Nat → Int32} {s6 c p2 h : Int32} : ∀ (n : Nat) (x : Int32), 0 ≤ x → (10 - x.toInt).toNat < n → (¬ aX0_suitsWithin_15 s0 s2 s4 s6 c p2 h n x = 0 ↔ ∃ j : Nat, j ≤ 9 ∧ x.toInt ≤ j ∧ (j : Int) ≤ p2.toInt ∧ okd (rX0_depthAt s0 s6 (nI j) h) (s2 (c.toNatClampNeg)) (s4 (c.toNatClampNeg))) := by
  intro n
  induction n with
  | zero => intro x _ hm; exact absurd hm (Nat.not_lt_zero _)
  | succ n ih =>
    intro x h0 hm
    rw [aX0_suitsWithin_15]
    have hlast : ∀ y : Int32, (if (9 : Int32) < p2 then (9 : Int32) else p2) < y ↔ ¬ (y.toInt ≤ 9 ∧ y.toInt ≤ p2.toInt) := fun y => by
      have e9 : (9 : Int32).toInt = 9 := rfl
      split
      · rename_i q
        have q := Int32.lt_iff_toInt_lt.mp q
        rw [Int32.lt_iff_toInt_lt, e9]
        rw [e9] at q
        omega
      · rename_i q
        have q := Int32.le_iff_toInt_le.mp (Int32.not_lt.mp q)
        rw [e9] at q
        rw [Int32.lt_iff_toInt_lt]
        omega
    have hx := clampInt h0
    by_cases c1 : (if (9 : Int32) < p2 then (9 : Int32) else p2) < x
    · rw [if_pos c1]
      have c2 := (hlast x).mp c1
      refine ⟨fun q => absurd rfl q, ?_⟩
      rintro ⟨j, j9, jx, jp, -⟩
      exact absurd ⟨by omega, by omega⟩ c2
    · rw [if_neg c1]
      have c2 : x.toInt ≤ 9 ∧ x.toInt ≤ p2.toInt := Classical.byContradiction fun q => c1 ((hlast x).mpr q)
      have x10 : x < 10 := Int32.lt_iff_toInt_lt.mpr (by have e : (10 : Int32).toInt = 10 := rfl; omega)
      have ih := ih (x + 1) (a_nn h0 x10) (up_lt (b := 10) (B := 10) rfl x10 hm)
      have x1 := add1 x10
      have ex : x = nI (x.toNatClampNeg) := cl_nI x h0
      have rest : ¬ okd (rX0_depthAt s0 s6 x h) (s2 (c.toNatClampNeg)) (s4 (c.toNatClampNeg)) → ((¬ aX0_suitsWithin_15 s0 s2 s4 s6 c p2 h n (x + 1) = 0) ↔ ∃ j : Nat, j ≤ 9 ∧ x.toInt ≤ j ∧ (j : Int) ≤ p2.toInt ∧ okd (rX0_depthAt s0 s6 (nI j) h) (s2 (c.toNatClampNeg)) (s4 (c.toNatClampNeg))) := fun hno => by
        rw [ih]
        constructor
        · rintro ⟨j, j9, jx, jp, jo⟩
          exact ⟨j, j9, by omega, jp, jo⟩
        · rintro ⟨j, j9, jx, jp, jo⟩
          refine ⟨j, j9, ?_, jp, jo⟩
          by_cases e : (j : Int) = x.toInt
          · have : j = x.toNatClampNeg := by omega
            rw [this, ← ex] at jo
            exact absurd jo hno
          · omega
      by_cases c3 : rX0_isDeepEnough s2 c (rX0_depthAt s0 s6 x h) = 0
      · rw [if_pos c3]
        refine rest fun o => ?_
        unfold rX0_isDeepEnough at c3
        rw [if_neg (Int32.not_lt.mpr o.1)] at c3
        exact absurd c3 (by decide)
      · rw [if_neg c3]
        have d1 : s2 (c.toNatClampNeg) ≤ rX0_depthAt s0 s6 x h := Classical.byContradiction fun q => c3 (by unfold rX0_isDeepEnough; rw [if_pos (Int32.not_le.mp q)])
        by_cases c4 : rX0_isTooDeep s2 s4 c (rX0_depthAt s0 s6 x h) = 0
        · rw [if_pos c4]
          have d2 : rX0_depthAt s0 s6 x h ≤ s2 (c.toNatClampNeg) + s4 (c.toNatClampNeg) := Classical.byContradiction fun q => by
            unfold rX0_isTooDeep at c4
            rw [if_neg q] at c4
            exact absurd c4 (by decide)
          refine ⟨fun _ => ⟨x.toNatClampNeg, by omega, by omega, by omega, by rw [← ex]; exact ⟨d1, d2⟩⟩, fun _ => by decide⟩
        · rw [if_neg c4]
          refine rest fun o => ?_
          unfold rX0_isTooDeep at c4
          rw [if_pos o.2] at c4
          exact absurd rfl c4
theorem suits_iff {s0 s2 s4 : Nat → Int32} {s6 c p1 p2 h : Int32} : ¬ rX0_suitsWithin s0 s2 s4 s6 c p1 p2 h = 0 ↔ ∃ j : Nat, j ≤ 9 ∧ p1.toInt ≤ j ∧ (j : Int) ≤ p2.toInt ∧ okd (rX0_depthAt s0 s6 (nI j) h) (s2 (c.toNatClampNeg)) (s4 (c.toNatClampNeg)) := by
  unfold rX0_suitsWithin
  have e0 : (0 : Int32).toInt = 0 := rfl
  by_cases q : p1 < 0
  · rw [if_pos q, suit15 11 0 (by decide) (by decide)]
    have q := Int32.lt_iff_toInt_lt.mp q
    constructor
    · rintro ⟨j, a, b, c, d⟩
      exact ⟨j, a, by omega, c, d⟩
    · rintro ⟨j, a, b, c, d⟩
      exact ⟨j, a, by omega, c, d⟩
  · rw [if_neg q]
    have q0 := Int32.not_lt.mp q
    refine suit15 11 p1 q0 ?_
    have := Int32.le_iff_toInt_le.mp q0
    omega
theorem de_iff {a5 a7 : Nat → Int32} {c d : Int32} : ¬ rX10_isDeepEnough a5 a7 c d = 0 ↔ okd d (a5 (c.toNatClampNeg)) (a7 (c.toNatClampNeg)) := by
  unfold rX10_isDeepEnough okd
  rw [in32]
  exact ⟨fun h => Classical.byContradiction h, fun h q => q h⟩
theorem isOpen_iff {a0 : Int32} {a1 a5 a7 a9 : Nat → Int32} {c n : Int32} : ∀ k : Nat, (¬ aX10_isOpen_5 a0 a1 a5 a7 a9 c n k = 0 ↔ ∃ j : Nat, j < k ∧ okd (rX10_depthBehind a0 a1 a9 (nI j) n) (a5 (c.toNatClampNeg)) (a7 (c.toNatClampNeg))) := by
  intro k
  induction k with
  | zero =>
    refine ⟨fun h => absurd rfl h, ?_⟩
    rintro ⟨j, h, -⟩
    omega
  | succ k ih =>
    rw [aX10_isOpen_5]
    by_cases q : aX10_isOpen_5 a0 a1 a5 a7 a9 c n k = 0
    · rw [if_pos q]
      have hno : ∀ j : Nat, j < k → ¬ okd (rX10_depthBehind a0 a1 a9 (nI j) n) (a5 (c.toNatClampNeg)) (a7 (c.toNatClampNeg)) := fun j hj o => absurd q (ih.mpr ⟨j, hj, o⟩)
      by_cases q2 : rX10_isDeepEnough a5 a7 c (rX10_depthBehind a0 a1 a9 (nI k) n) = 0
      · rw [if_pos q2]
        refine ⟨fun h => absurd rfl h, ?_⟩
        rintro ⟨j, hj, o⟩
        by_cases e : j = k
        · subst e
          exact absurd q2 (de_iff.mpr o)
        · exact absurd o (hno j (by omega))
      · rw [if_neg q2]
        exact ⟨fun _ => ⟨k, by omega, de_iff.mp q2⟩, fun _ => by decide⟩
    · rw [if_neg q]
      refine ⟨fun _ => ?_, fun _ => by decide⟩
      obtain ⟨j, hj, o⟩ := ih.mp q
      exact ⟨j, by omega, o⟩
section EQ3
variable {dy0 dy1 dy2 dy3 dy4 sh0 sh1 sh2 sh3 sh4 sh5 a1 a3 a5 a6 a7 a8 a9 : Nat → Int32} {dy5 sh6 sh7 sh8 a0 a2 a4 : Int32} {hu ca : Nat}
theorem dpt_eq {b : Int} (hB : RB sh0 sh1 sh2 sh3 sh4 sh5 sh6 sh7 sh8 a0 a1 a2 a3 a4 a5 a6 a7 a8) (hD : RD dy0 dy1 dy2 dy3 dy4 dy5 a9) (hI : DI hu ca b a9) (hb : b ≤ 9060) (tp : 0 < a0) {x n : Int32} (hn : 0 ≤ n) (hn2 : n ≤ 1000) : rX0_depthAt sh0 sh6 x (dy5 + n) = rX10_depthBehind a0 a1 a9 x n := db_eq hB hD hI hb tp hn hn2
theorem open1 (hB : RB sh0 sh1 sh2 sh3 sh4 sh5 sh6 sh7 sh8 a0 a1 a2 a3 a4 a5 a6 a7 a8) (hD : RD dy0 dy1 dy2 dy3 dy4 dy5 a9) (hI : DI hu ca 9060 a9) (tp : 0 < a0) {c : Int32} (hc : c.toNatClampNeg < a4.toNatClampNeg) {k : Nat} (hk : k < 1000) : rX0_suitsWithin sh0 sh2 sh4 sh6 c 0 9 (dy5 + nI k) = 0 ↔ rX10_isOpen a0 a1 a5 a7 a9 c (nI k) = 0 := by
  have kb := k_bd k hk
  have f1 := suits_iff (s0 := sh0) (s2 := sh2) (s4 := sh4) (s6 := sh6) (c := c) (p1 := 0) (p2 := 9) (h := dy5 + nI k)
  have f2 := isOpen_iff (a0 := a0) (a1 := a1) (a5 := a5) (a7 := a7) (a9 := a9) (c := c) (n := nI k) 10
  have hC := hB.2.2.2.2.2.2.2.2 _ hc
  have e0 : (0 : Int32).toInt = 0 := rfl
  have e9 : (9 : Int32).toInt = 9 := rfl
  have f3 : (∃ j : Nat, j ≤ 9 ∧ (0 : Int32).toInt ≤ j ∧ (j : Int) ≤ (9 : Int32).toInt ∧ okd (rX0_depthAt sh0 sh6 (nI j) (dy5 + nI k)) (sh2 (c.toNatClampNeg)) (sh4 (c.toNatClampNeg))) ↔ ∃ j : Nat, j < 10 ∧ okd (rX10_depthBehind a0 a1 a9 (nI j) (nI k)) (a5 (c.toNatClampNeg)) (a7 (c.toNatClampNeg)) := by
    constructor
    · rintro ⟨j, j9, -, -, o⟩
      rw [dpt_eq hB hD hI (Int.le_refl _) tp kb.1 kb.2, hC.1.1, hC.2.2.1.1] at o
      exact ⟨j, by omega, o⟩
    · rintro ⟨j, j9, o⟩
      refine ⟨j, by omega, by omega, by omega, ?_⟩
      rw [dpt_eq hB hD hI (Int.le_refl _) tp kb.1 kb.2, hC.1.1, hC.2.2.1.1]
      exact o
  have f4 := f1.trans (f3.trans f2.symm)
  exact ⟨fun h => Classical.byContradiction fun q => f4.mpr q h, fun h => Classical.byContradiction fun q => f4.mp q h⟩
theorem open_eq (hB : RB sh0 sh1 sh2 sh3 sh4 sh5 sh6 sh7 sh8 a0 a1 a2 a3 a4 a5 a6 a7 a8) (hD : RD dy0 dy1 dy2 dy3 dy4 dy5 a9) (hI : DI hu ca 9060 a9) (tp : 0 < a0) {c : Int32} (hc : c.toNatClampNeg < a4.toNatClampNeg) : rX0_hoursOpen sh0 sh2 sh4 sh6 c dy5 = rX10_openSet a0 a1 a5 a7 a9 c := by
  have h : ∀ k : Nat, k ≤ 12 → aX0_hoursOpen_5 sh0 sh2 sh4 sh6 c dy5 k = aX10_openSet_4 a0 a1 a5 a7 a9 c k := fun k => by
    induction k with
    | zero => intro _; rfl
    | succ k ih =>
      intro hk
      rw [aX0_hoursOpen_5, aX10_openSet_4, ih (by omega), or0]
      simp only [open1 hB hD hI tp hc (k := k) (by omega)]
  exact h 12 (Nat.le_refl _)
theorem pos_of_case (hB : RB sh0 sh1 sh2 sh3 sh4 sh5 sh6 sh7 sh8 a0 a1 a2 a3 a4 a5 a6 a7 a8) {k : Nat} (h : k < a4.toNatClampNeg) : 0 < a0 := hB.2.2.2.2.2.1 (pos_of_k h)
theorem e_open {p0 : Int32} (hB : RB sh0 sh1 sh2 sh3 sh4 sh5 sh6 sh7 sh8 a0 a1 a2 a3 a4 a5 a6 a7 a8) (hD : RD dy0 dy1 dy2 dy3 dy4 dy5 a9) (hI : DI hu ca 9060 a9) : rX9_open dy5 sh0 sh2 sh4 sh6 sh8 p0 = rX10_open a0 a1 a4 a5 a7 a9 p0 := by
  have c0 := hB.2.2.2.1
  unfold rX9_open rX10_open
  simp only [case_iff c0.1 c0.2, hB.1.2.2]
  split
  · rfl
  · rename_i q
    have k := case_ok c0.2 q
    exact open_eq hB hD hI (pos_of_case hB k.2.1) k.2.1
theorem so56 {c l3 l4 : Int32} {h : Int32} : ∀ (n : Nat) (x : Int32), 0 ≤ x → (10 - x.toInt).toNat < n → ((aX10_soonest_56 a0 a1 a5 a7 a9 h c l3 l4 n x).1 = 1 ↔ ∃ j : Nat, j ≤ 9 ∧ x.toInt ≤ j ∧ (a9 (h.toNatClampNeg) - l3).toInt ≤ j ∧ (j : Int) ≤ (a9 (h.toNatClampNeg) + l3).toInt ∧ okd (rX10_depthBehind a0 a1 a9 (nI j) l4) (a5 (c.toNatClampNeg)) (a7 (c.toNatClampNeg))) ∧ ((aX10_soonest_56 a0 a1 a5 a7 a9 h c l3 l4 n x).1 = 1 → (aX10_soonest_56 a0 a1 a5 a7 a9 h c l3 l4 n x).2.1 = l4) := by
  intro n
  induction n with
  | zero => intro x _ hm; exact absurd hm (Nat.not_lt_zero _)
  | succ n ih =>
    intro x h0 hm
    rw [aX10_soonest_56]
    have hx := clampInt h0
    by_cases c1 : (10 : Int32) ≤ x
    · rw [if_pos c1]
      have c2 := Int32.le_iff_toInt_le.mp c1
      have e : (10 : Int32).toInt = 10 := rfl
      have n01 : ¬ (0 : Int32) = 1 := by decide
      refine ⟨⟨fun q => absurd q n01, ?_⟩, fun q => absurd q n01⟩
      rintro ⟨j, j9, jx, -⟩
      omega
    · rw [if_neg c1]
      have x10 := Int32.not_le.mp c1
      have x10' := Int32.lt_iff_toInt_lt.mp x10
      have e : (10 : Int32).toInt = 10 := rfl
      have ih := ih (x + 1) (a_nn h0 x10) (up_lt (b := 10) (B := 10) rfl x10 hm)
      have x1 := add1 x10
      have ex : x = nI (x.toNatClampNeg) := cl_nI x h0
      have rest : ¬ ((a9 (h.toNatClampNeg) - l3).toInt ≤ x.toInt ∧ x.toInt ≤ (a9 (h.toNatClampNeg) + l3).toInt ∧ okd (rX10_depthBehind a0 a1 a9 x l4) (a5 (c.toNatClampNeg)) (a7 (c.toNatClampNeg))) → ((aX10_soonest_56 a0 a1 a5 a7 a9 h c l3 l4 n (x + 1)).1 = 1 ↔ ∃ j : Nat, j ≤ 9 ∧ x.toInt ≤ j ∧ (a9 (h.toNatClampNeg) - l3).toInt ≤ j ∧ (j : Int) ≤ (a9 (h.toNatClampNeg) + l3).toInt ∧ okd (rX10_depthBehind a0 a1 a9 (nI j) l4) (a5 (c.toNatClampNeg)) (a7 (c.toNatClampNeg))) := fun hno => by
        rw [ih.1]
        constructor
        · rintro ⟨j, j9, jx, r⟩
          exact ⟨j, j9, by omega, r⟩
        · rintro ⟨j, j9, jx, j1, j2, jo⟩
          refine ⟨j, j9, ?_, j1, j2, jo⟩
          by_cases e : (j : Int) = x.toInt
          · have : j = x.toNatClampNeg := by omega
            rw [this, ← ex] at jo
            exact absurd ⟨by omega, by omega, jo⟩ hno
          · omega
      by_cases c3 : rX10_in x.toInt64 (a9 (h.toNatClampNeg) - l3).toInt64 (a9 (h.toNatClampNeg) + l3).toInt64 = 0
      · rw [if_pos c3]
        refine ⟨rest fun o => ?_, ih.2⟩
        exact (in32 _ _ _).mp c3 ⟨Int32.le_iff_toInt_le.mpr o.1, Int32.le_iff_toInt_le.mpr o.2.1⟩
      · rw [if_neg c3]
        have c3' : a9 (h.toNatClampNeg) - l3 ≤ x ∧ x ≤ a9 (h.toNatClampNeg) + l3 := Classical.byContradiction fun q => c3 ((in32 _ _ _).mpr q)
        by_cases c4 : rX10_isDeepEnough a5 a7 c (rX10_depthBehind a0 a1 a9 x l4) = 0
        · rw [if_pos c4]
          refine ⟨rest fun o => absurd c4 (de_iff.mpr o.2.2), ih.2⟩
        · rw [if_neg c4]
          refine ⟨⟨fun _ => ⟨x.toNatClampNeg, by omega, by omega, ?_, ?_, by rw [← ex]; exact de_iff.mp c4⟩, fun _ => rfl⟩, fun _ => rfl⟩
          · have := Int32.le_iff_toInt_le.mp c3'.1
            omega
          · have := Int32.le_iff_toInt_le.mp c3'.2
            omega
theorem so_step (hB : RB sh0 sh1 sh2 sh3 sh4 sh5 sh6 sh7 sh8 a0 a1 a2 a3 a4 a5 a6 a7 a8) (hD : RD dy0 dy1 dy2 dy3 dy4 dy5 a9) (hI : DI hu ca 9060 a9) (tp : 0 < a0) {h c v : Int32} (hc : c.toNatClampNeg < a4.toNatClampNeg) (hh : h.toNatClampNeg < 4) {k : Nat} (hk : k < 1000) : ¬ rX0_suitsWithin sh0 sh2 sh4 sh6 c (dy0 (h.toNatClampNeg) - v) (dy0 (h.toNatClampNeg) + v) (dy5 + nI k) = 0 ↔ (aX10_soonest_56 a0 a1 a5 a7 a9 h c v (nI k) 11 0).1 = 1 := by
  have kb := k_bd k hk
  have hC := hB.2.2.2.2.2.2.2.2 _ hc
  rw [suits_iff, (so56 11 0 (by decide) (by decide)).1, hD.1 _ hh]
  have e0 : (0 : Int32).toInt = 0 := rfl
  constructor
  · rintro ⟨j, j9, j1, j2, o⟩
    rw [dpt_eq hB hD hI (Int.le_refl _) tp kb.1 kb.2, hC.1.1, hC.2.2.1.1] at o
    exact ⟨j, j9, by omega, j1, j2, o⟩
  · rintro ⟨j, j9, -, j1, j2, o⟩
    refine ⟨j, j9, j1, j2, ?_⟩
    rw [dpt_eq hB hD hI (Int.le_refl _) tp kb.1 kb.2, hC.1.1, hC.2.2.1.1]
    exact o
theorem so_eq (hB : RB sh0 sh1 sh2 sh3 sh4 sh5 sh6 sh7 sh8 a0 a1 a2 a3 a4 a5 a6 a7 a8) (hD : RD dy0 dy1 dy2 dy3 dy4 dy5 a9) (hI : DI hu ca 9060 a9) (tp : 0 < a0) {h c : Int32} (hc : c.toNatClampNeg < a4.toNatClampNeg) (hh : h.toNatClampNeg < 4) (hp : sh1 (h.toNatClampNeg) = a3 (h.toNatClampNeg)) : ∀ (n k : Nat) (v : Int32), n + k = 31 → aX9_soonest_69 dy0 dy5 sh0 sh1 sh2 sh4 sh6 h c n k v = (if (aX10_soonest_46 a0 a1 a3 a5 a7 a9 h c (n + 1) v (nI k)).1 = 1 then (aX10_soonest_46 a0 a1 a3 a5 a7 a9 h c (n + 1) v (nI k)).2.1 else -1) := by
  intro n
  induction n with
  | zero =>
    intro k v hk
    have : k = 31 := by omega
    subst this
    have h31 : (31 : Int32) ≤ nI 31 := by decide
    have n01 : ¬ (0 : Int32) = 1 := by decide
    rw [aX10_soonest_46, if_pos h31]
    exact (if_neg n01).symm
  | succ n ih =>
    intro k v hk
    have h31 : ¬ (31 : Int32) ≤ nI k := Int32.not_le.mpr (nI_lt (a := k) (b := 31) (by omega) (by decide))
    rw [aX9_soonest_69, aX10_soonest_46, if_neg h31]
    have st := so_step hB hD hI tp (h := h) (c := c) (v := v) hc hh (k := k) (by omega)
    by_cases q : rX0_suitsWithin sh0 sh2 sh4 sh6 c (dy0 (h.toNatClampNeg) - v) (dy0 (h.toNatClampNeg) + v) (dy5 + nI k) = 0
    · rw [if_pos q, if_neg (fun e => (st.mpr e) q), hp, ih (k + 1) _ (by omega), show nI (k + 1) = nI k + 1 from (nI_1 k).symm]
    · rw [if_neg q, if_pos (st.mp q)]
      rw [if_pos rfl]
      exact ((so56 (a0 := a0) (a1 := a1) (a5 := a5) (a7 := a7) (a9 := a9) (c := c) (l3 := v) (l4 := nI k) (h := h) 11 0 (by decide) (by decide)).2 (st.mp q)).symm
theorem e_soonest {p0 p1 : Int32} (hB : RB sh0 sh1 sh2 sh3 sh4 sh5 sh6 sh7 sh8 a0 a1 a2 a3 a4 a5 a6 a7 a8) (hD : RD dy0 dy1 dy2 dy3 dy4 dy5 a9) (hI : DI hu ca 9060 a9) : rX9_soonest dy0 dy2 dy5 sh0 sh1 sh2 sh4 sh6 sh7 sh8 p0 p1 = rX10_soonest a0 a1 a2 a3 a4 a5 a7 a9 p0 p1 := by
  have h0 := hB.2.2.1
  have c0 := hB.2.2.2.1
  unfold rX9_soonest rX10_soonest
  simp only [hut_iff h0.1 h0.2, case_iff c0.1 c0.2, hB.1.2.1, hB.1.2.2]
  split
  · rfl
  · rename_i q
    have k := hut_ok h0.2 q
    split
    · rfl
    · rename_i q2
      have k2 := case_ok c0.2 q2
      have tp := pos_of_case hB k2.2.1
      have hp := (hB.2.2.2.2.2.2.2.1 _ k.2.1).1
      rw [show ((8 : Int32) + p0).toNatClampNeg = 8 + p0.toNatClampNeg from ixL 8 k.1 (by omega) (by omega), hD.2.2.1 _ k.2.2]
      have so := so_eq hB hD hI tp (h := p0) (c := p1) k2.2.1 k.2.2 hp 31 0
      rcases hI.2.2.2.2.2.1 _ k.2.2 with e | e
      · rw [if_pos e, if_neg (by rw [e]; decide), so _ rfl, hp]
        rfl
      · rw [if_neg (by rw [e]; decide), if_pos e, so _ rfl]
        rfl
end EQ3
