section EQ2
variable {dy0 dy1 dy2 dy3 dy4 sh0 sh1 sh2 sh3 sh4 sh5 a1 a3 a5 a6 a7 a8 a9 : Nat → Int32} {dy5 sh6 sh7 sh8 a0 a2 a4 : Int32} {hu ca : Nat}
theorem e_offer {p0 p1 p2 p3 : Int32} (hB : RB sh0 sh1 sh2 sh3 sh4 sh5 sh6 sh7 sh8 a0 a1 a2 a3 a4 a5 a6 a7 a8) : rX9_offer sh5 sh8 p0 p1 p2 p3 = rX10_offer a4 a8 p0 p1 p2 p3 := by
  obtain ⟨⟨rfl, rfl, rfl⟩, -, -, ⟨h0, h5⟩, -, -, -, -, hC⟩ := hB
  unfold rX9_offer rX10_offer
  have h1 : rX10_in p1.toInt64 0 100 = 0 ↔ ¬ rX9_isOutside p1 0 100 = 0 := out_iff rfl rfl
  have h2 : rX10_in p2.toInt64 0 999 = 0 ↔ ¬ rX9_isOutside p2 0 999 = 0 := out_iff rfl rfl
  have h3 : rX10_in p3.toInt64 0 1 = 0 ↔ ¬ rX9_isOutside p3 0 1 = 0 := out_iff rfl rfl
  simp only [case_iff h0 h5, h1, h2, h3]
  split
  · rfl
  · rename_i q
    have k := case_ok h5 q
    have w := (hC _ k.2.1).2.2.2
    by_cases q1 : rX9_isOutside p1 0 100 = 0
    · by_cases q2 : rX9_isOutside p2 0 999 = 0
      · by_cases q3 : rX9_isOutside p3 0 1 = 0
        · simp only [if_pos q1, if_pos q2, if_pos q3, if_neg (not_not_intro q1), if_neg (not_not_intro q2), if_neg (not_not_intro q3)]
          rw [w.1]
          have b1 := isO.mp q1
          have b2 := isO.mp q2
          have b3 := isO.mp q3
          have hv : 0 ≤ a8 (p0.toNatClampNeg) * p1 / 100 ∧ a8 (p0.toNatClampNeg) * p1 / 100 ≤ 999 := by
            obtain ⟨x, hx, ex⟩ := nI_of (Int32.not_lt.mpr w.2.1)
            obtain ⟨y, hy, ey⟩ := nI_of (Int32.not_lt.mpr b1.1)
            have x9 : x ≤ 999 := by
              have := Int32.le_iff_toInt_le.mp w.2.2
              rw [ex, nI_toInt hx] at this
              have e : (999 : Int32).toInt = 999 := rfl
              omega
            have y9 : y ≤ 100 := by
              have := Int32.le_iff_toInt_le.mp b1.2
              rw [ey, nI_toInt hy] at this
              have e : (100 : Int32).toInt = 100 := rfl
              omega
            have xy : x * y ≤ 999 * 100 := Nat.mul_le_mul x9 y9
            rw [ex, ey, pk_mul]
            rw [show nI (x * y) / (100 : Int32) = nI (x * y / 100) from pk_div (d := 100) (by omega) (by decide) (by decide)]
            have : x * y / 100 ≤ 999 := by omega
            exact ⟨nI_pos' (by omega), nI_le (b := 999) this (by decide)⟩
          generalize a8 (p0.toNatClampNeg) * p1 / 100 = v at hv ⊢
          by_cases c : p3 = 0
          · have c1 : ¬ p3 = 1 := by rw [c]; decide
            simp only [if_pos c, if_neg c1]
            by_cases d : v ≤ p2
            · simp only [if_pos d]
              split
              · grind
              · rfl
            · simp only [if_neg d]
              split
              · rfl
              · grind
          · have c1 : p3 = 1 := by grind
            simp only [if_neg c, if_pos c1]
        · simp only [if_pos q1, if_pos q2, if_neg q3, if_neg (not_not_intro q1), if_neg (not_not_intro q2), not_false_eq_true, if_true, if_pos q3]
      · simp only [if_pos q1, if_neg q2, if_neg (not_not_intro q1), not_false_eq_true, if_true, if_pos q2]
    · simp only [if_neg q1, not_false_eq_true, if_true, if_pos q1]
theorem calm_eq {p1 : Int32} : ∀ k : Nat, aX9_calm_30 p1 k = aX10_calm_34 p1 k
  | 0 => rfl
  | k + 1 => by rw [aX9_calm_30, aX10_calm_34, calm_eq k]
theorem e_calm {p0 p1 : Int32} : rX9_calm p0 p1 = rX10_calm p0 p1 := by
  unfold rX9_calm rX10_calm
  have h1 : rX10_in p0.toInt64 0 60 = 0 ↔ ¬ rX9_isOutside p0 0 60 = 0 := out_iff rfl rfl
  have h2 : rX10_in p1.toInt64 0 100 = 0 ↔ ¬ rX9_isOutside p1 0 100 = 0 := out_iff rfl rfl
  simp only [h1, h2, calm_eq]
  by_cases q1 : rX9_isOutside p0 0 60 = 0
  · by_cases q2 : rX9_isOutside p1 0 100 = 0
    · simp only [if_pos q1, if_pos q2, if_neg (not_not_intro q1), if_neg (not_not_intro q2)]
    · simp only [if_pos q1, if_neg q2, if_neg (not_not_intro q1), not_false_eq_true, if_true, if_pos q2]
  · simp only [if_neg q1, not_false_eq_true, if_true, if_pos q1]
theorem e_shout {er0 er1 a32 a33 : Nat → Int32} {er2 a31 p0 p1 : Int32} (h : RE er0 er1 er2 a31 a32 a33) : rX9_shout er2 p0 = rX10_shout a31 p0 ∧ RE (sX9_shout_o5_0 er0 er2 p0) (sX9_shout_o5_1 er1 er2 p0 p1) (sX9_shout_o5_2 er2 p0) (sX10_shout_31 a31 p0) (sX10_shout_32 a31 a32 p0) (sX10_shout_33 a31 a33 p0 p1) := by
  have h' := h
  obtain ⟨rfl, h0, h6, hj⟩ := h
  unfold rX9_shout rX10_shout sX9_shout_o5_0 sX9_shout_o5_1 sX9_shout_o5_2 sX10_shout_31 sX10_shout_32 sX10_shout_33
  have hd : rX10_in p0.toInt64 0 10 = 0 ↔ ¬ rX9_isNoDepth p0 = 0 := out_iff rfl rfl
  simp only [hd]
  by_cases q : rX9_isNoDepth p0 = 0
  · simp only [if_pos q, if_neg (not_not_intro q)]
    by_cases c : er2 = 6
    · have c1 : ¬ er2 < 6 := by rw [c]; decide
      simp only [if_pos c, if_neg c1]
      exact ⟨trivial, h'⟩
    · have c1 : er2 < 6 := by grind
      have c2 : ¬ (6 : Int32) ≤ er2 := Int32.not_le.mpr c1
      simp only [if_neg c, if_pos c1, rX4_add, sX4_add_0, sX4_add_1, sX4_add_2, if_neg c2]
      refine ⟨trivial, rfl, a_nn h0 c1, by grind, fun j hj' => ?_⟩
      rw [cnS h0 c1] at hj'
      unfold upd
      split
      · exact ⟨rfl, rfl⟩
      · exact hj j (by omega)
  · simp only [if_neg q, if_pos q, not_false_eq_true, if_true]
    exact ⟨trivial, h'⟩
theorem b15_01 {a32 a33 : Nat → Int32} {b : Nat} : ∀ k : Nat, aX10_bearsNow_15 a32 a33 b k = 0 ∨ aX10_bearsNow_15 a32 a33 b k = 1
  | 0 => Or.inr rfl
  | k + 1 => by
    rw [aX10_bearsNow_15]
    repeat' split
    all_goals first | exact Or.inl rfl | exact Or.inr rfl
/-- one shout is so, for a number b -/
def shOk (e0 e1 : Nat → Int32) (b : Int32) (j : Nat) : Prop := if e0 j ≤ b then 0 = e1 j else 1 = e1 j
theorem fits_iff {e0 e1 : Nat → Int32} {b : Int32} : ∀ n k : Nat, n + k < 1000 → (¬ aX4_fitsAll_2 e0 e1 b n k = 0 ↔ ∀ j : Nat, k ≤ j → j < k + n → shOk e0 e1 b j) := by
  intro n
  induction n with
  | zero =>
    intro k _
    exact ⟨fun _ j h1 h2 => by omega, fun _ => by rw [aX4_fitsAll_2]; decide⟩
  | succ n ih =>
    intro k hk
    rw [aX4_fitsAll_2, kc k (by omega)]
    have ih := ih (k + 1) (by omega)
    have step : shOk e0 e1 b k → ((¬ aX4_fitsAll_2 e0 e1 b n (k + 1) = 0) ↔ ∀ j : Nat, k ≤ j → j < k + (n + 1) → shOk e0 e1 b j) := fun hs => by
      rw [ih]
      constructor
      · intro h j h1 h2
        by_cases e : j = k
        · rw [e]; exact hs
        · exact h j (by omega) (by omega)
      · intro h j h1 h2
        exact h j (by omega) (by omega)
    by_cases c : e0 k ≤ b
    · rw [if_pos c]
      by_cases d : (0 : Int32) = e1 k
      · rw [if_pos d]
        exact step (by unfold shOk; rw [if_pos c]; exact d)
      · rw [if_neg d]
        refine ⟨fun h => absurd rfl h, fun h => absurd (h k (Nat.le_refl _) (by omega)) ?_⟩
        unfold shOk
        rw [if_pos c]
        exact d
    · rw [if_neg c]
      by_cases d : (1 : Int32) = e1 k
      · rw [if_pos d]
        exact step (by unfold shOk; rw [if_neg c]; exact d)
      · rw [if_neg d]
        refine ⟨fun h => absurd rfl h, fun h => absurd (h k (Nat.le_refl _) (by omega)) ?_⟩
        unfold shOk
        rw [if_neg c]
        exact d
theorem b15_iff {a32 a33 : Nat → Int32} {b : Nat} : ∀ k : Nat, k < 1000 → (¬ aX10_bearsNow_15 a32 a33 b k = 0 ↔ ∀ j : Nat, j < k → shOk a32 a33 (nI b) j) := by
  intro k
  induction k with
  | zero =>
    intro _
    exact ⟨fun _ j h => by omega, fun _ => by rw [aX10_bearsNow_15]; decide⟩
  | succ k ih =>
    intro hk
    have ih := ih (by omega)
    rw [aX10_bearsNow_15, kc k (by omega)]
    by_cases c : aX10_bearsNow_15 a32 a33 b k = 0
    · rw [if_pos c]
      refine ⟨fun h => absurd rfl h, fun h => absurd c (ih.mpr fun j hj => h j (by omega))⟩
    · rw [if_neg c]
      have hk' := ih.mp c
      have fin : (shOk a32 a33 (nI b) k) → ∀ j : Nat, j < k + 1 → shOk a32 a33 (nI b) j := fun hs j hj => by
        by_cases e : j = k
        · rw [e]; exact hs
        · exact hk' j (by omega)
      by_cases c2 : a32 k ≤ nI b
      · rw [if_pos c2]
        by_cases d : (0 : Int32) = a33 k
        · rw [if_pos d]
          exact ⟨fun _ => fin (by unfold shOk; rw [if_pos c2]; exact d), fun _ => by decide⟩
        · rw [if_neg d]
          refine ⟨fun h => absurd rfl h, fun h => absurd (h k (by omega)) ?_⟩
          unfold shOk
          rw [if_pos c2]
          exact d
      · rw [if_neg c2]
        by_cases d : (1 : Int32) = a33 k
        · rw [if_pos d]
          exact ⟨fun _ => fin (by unfold shOk; rw [if_neg c2]; exact d), fun _ => by decide⟩
        · rw [if_neg d]
          refine ⟨fun h => absurd rfl h, fun h => absurd (h k (by omega)) ?_⟩
          unfold shOk
          rw [if_neg c2]
          exact d
theorem e_bears {er0 er1 a32 a33 : Nat → Int32} {er2 a31 : Int32} (h : RE er0 er1 er2 a31 a32 a33) : rX9_bears er0 er1 er2 = rX10_bears a31 a32 a33 := by
  obtain ⟨rfl, h0, h6, hj⟩ := h
  have hN := clampLe (n := 6) (b := 6) rfl h0 h6
  have hb : ∀ b : Nat, rX4_fitsAll er0 er1 er2 (nI b) = 0 ↔ aX10_bearsNow_15 a32 a33 b (er2.toNatClampNeg) = 0 := fun b => by
    have f1 := fits_iff (e0 := er0) (e1 := er1) (b := nI b) (er2.toNatClampNeg) 0 (by omega)
    have f2 := b15_iff (a32 := a32) (a33 := a33) (b := b) (er2.toNatClampNeg) (by omega)
    have f3 : (∀ j : Nat, 0 ≤ j → j < 0 + er2.toNatClampNeg → shOk er0 er1 (nI b) j) ↔ ∀ j : Nat, j < er2.toNatClampNeg → shOk a32 a33 (nI b) j := by
      constructor
      · intro q j hj'
        have := q j (Nat.zero_le _) (by omega)
        unfold shOk at this ⊢
        rw [(hj j hj').1, (hj j hj').2] at this
        exact this
      · intro q j _ hj'
        have := q j (by omega)
        unfold shOk at this ⊢
        rw [(hj j (by omega)).1, (hj j (by omega)).2]
        exact this
    unfold rX4_fitsAll
    have f4 := f1.trans (f3.trans f2.symm)
    exact ⟨fun h => Classical.byContradiction fun q => f4.mpr q h, fun h => Classical.byContradiction fun q => f4.mp q h⟩
  have hk : ∀ k : Nat, aX4_allThatFits_4 er0 er1 er2 k = aX10_bearsNow_4 er2 a32 a33 k := fun k => by
    induction k with
    | zero => rfl
    | succ k ih =>
      rw [aX4_allThatFits_4, aX10_bearsNow_4, ih, or0]
      simp only [hb k]
  exact hk 11
theorem e_write {bk0 bk1 a35 a36 : Nat → Int32} {bk2 a34 p0 p1 : Int32} (hB : RB sh0 sh1 sh2 sh3 sh4 sh5 sh6 sh7 sh8 a0 a1 a2 a3 a4 a5 a6 a7 a8) (h : RK (a4.toNatClampNeg) bk0 bk1 bk2 a34 a35 a36) : rX9_write bk2 sh8 p0 p1 = rX10_write a4 a34 p0 p1 ∧ RK (a4.toNatClampNeg) (sX9_write_o6_0 bk0 bk2 sh8 p0 p1) (sX9_write_o6_1 bk1 bk2 sh8 p0 p1) (sX9_write_o6_2 bk2 sh8 p0 p1) (sX10_write_34 a4 a34 p0 p1) (sX10_write_35 a4 a34 a35 p0 p1) (sX10_write_36 a4 a34 a36 p0 p1) := by
  obtain ⟨⟨rfl, rfl, rfl⟩, -, -, ⟨c0, c5⟩, -, -, -, -, hC⟩ := hB
  have h' := h
  obtain ⟨rfl, h0, h15, hj⟩ := h
  unfold rX9_write rX10_write sX9_write_o6_0 sX9_write_o6_1 sX9_write_o6_2 sX10_write_34 sX10_write_35 sX10_write_36
  have hd : rX10_in p1.toInt64 0 4 = 0 ↔ ¬ rX9_isOutside p1 0 4 = 0 := out_iff rfl rfl
  simp only [hd, case_iff c0 c5]
  by_cases q0 : rX0_hasCase sh8 p0 = 0
  · simp only [if_pos q0]
    exact ⟨trivial, h'⟩
  · simp only [if_neg q0]
    have k := case_ok c5 q0
    by_cases q : rX9_isOutside p1 0 4 = 0
    · simp only [if_pos q, if_neg (not_not_intro q)]
      by_cases c : bk2 = 15
      · have c1 : ¬ bk2 < 15 := by rw [c]; decide
        simp only [if_pos c, if_neg c1]
        exact ⟨trivial, h'⟩
      · have c1 : bk2 < 15 := by grind
        have c2 : ¬ (15 : Int32) ≤ bk2 := Int32.not_le.mpr c1
        simp only [if_neg c, if_pos c1, rX1_add, sX1_add_0, sX1_add_1, sX1_add_2, if_neg c2]
        refine ⟨trivial, rfl, a_nn h0 c1, by grind, fun j hj' => ?_⟩
        rw [cnS h0 c1] at hj'
        unfold upd
        split
        · exact ⟨rfl, rfl, k.1, k.2.1⟩
        · exact hj j (by omega)
    · simp only [if_neg q, if_pos q, not_false_eq_true, if_true]
      exact ⟨trivial, h'⟩
theorem judge_eq {bk0 bk1 a35 a36 : Nat → Int32} {N : Nat} (hN : N ≤ 15) (hs : ∀ j : Nat, j < 5 → dy3 j = a9 (12 + j)) (hj : ∀ j : Nat, j < N → bk0 j = a35 j ∧ bk1 j = a36 j ∧ 0 ≤ a35 j ∧ (a35 j).toNatClampNeg < 5) : ∀ n k : Nat, n + k = N → aX1_firstWrong_2 bk0 bk1 dy3 n k = aX10_judge_2 a9 a35 a36 n k := by
  intro n
  induction n with
  | zero => intro k _; rfl
  | succ n ih =>
    intro k hk
    have h := hj k (by omega)
    rw [aX1_firstWrong_2, aX10_judge_2, kc k (by omega), ih (k + 1) (by omega), h.1, h.2.1, hs _ h.2.2.2, show ((12 : Int32) + a35 k).toNatClampNeg = 12 + (a35 k).toNatClampNeg from ixL 12 h.2.2.1 (by omega) (by omega)]
theorem e_judge {bk0 bk1 a35 a36 : Nat → Int32} {bk2 a34 : Int32} (h5 : ca ≤ 5) (hD : RD dy0 dy1 dy2 dy3 dy4 dy5 a9) (h : RK ca bk0 bk1 bk2 a34 a35 a36) : rX9_judge dy3 bk0 bk1 bk2 = rX10_judge a9 a34 a35 a36 := by
  obtain ⟨rfl, h0, h15, hj⟩ := h
  have hN := clampLe (n := 15) (b := 15) rfl h0 h15
  exact judge_eq hN hD.2.2.2.1 (fun j q => ⟨(hj j q).1, (hj j q).2.1, (hj j q).2.2.1, by have := (hj j q).2.2.2; omega⟩) _ 0 (by omega)
end EQ2
