theorem cnS {x b : Int32} (h0 : 0 ≤ x) (h : x < b) : (x + 1).toNatClampNeg = x.toNatClampNeg + 1 := by
  have e := add1 h
  have e1 := clampInt h0
  have e2 := clampInt (a_nn h0 h)
  omega
theorem or0 (x : Int32) : x ||| 0 = x := by simp
theorem add00 (x : Int32) : x + 0 = x := by simp
theorem e_feed {rd0 a11 : Nat → Int32} {rd2 a12 p0 : Int32} (h : RT rd0 rd2 a11 a12) : rX9_feed rd2 p0 = rX10_feed a12 p0 ∧ RT (sX9_feed_o0_0 rd0 rd2 p0) (sX9_feed_o0_2 rd2 p0) (sX10_feed_11 a11 a12 p0) (sX10_feed_12 a12 p0) := by
  have h' := h
  obtain ⟨rfl, h0, h1, hj⟩ := h
  unfold rX9_feed rX10_feed sX9_feed_o0_0 sX9_feed_o0_2 sX10_feed_11 sX10_feed_12
  by_cases q : rX9_isOutside p0 0 255 = 0
  · have qi : ¬ rX10_in p0.toInt64 0 255 = 0 := fun e => (out_iff (a := 0) (b := 255) rfl rfl).mp e q
    simp only [if_pos q, if_neg qi]
    by_cases c : rd2 = 240
    · have c1 : ¬ rd2 < 240 := by rw [c]; decide
      simp only [if_pos c, if_neg c1]
      exact ⟨trivial, h'⟩
    · have c1 : rd2 < 240 := by grind
      have c2 : ¬ (240 : Int32) ≤ rd2 := Int32.not_le.mpr c1
      simp only [if_neg c, if_pos c1, rX8_add, sX8_add_0, sX8_add_2, if_neg c2]
      refine ⟨trivial, rfl, a_nn h0 c1, by grind, fun j hj' => ?_⟩
      rw [cnS h0 c1] at hj'
      unfold upd
      split
      · exact ⟨rfl, (isO.mp q).1⟩
      · exact hj j (by omega)
  · have qi : rX10_in p0.toInt64 0 255 = 0 := (out_iff (a := 0) (b := 255) rfl rfl).mpr q
    simp only [if_neg q, if_pos qi]
    exact ⟨trivial, h'⟩
theorem i12 (k : Nat) (h : k < 1000) : ((12 : Int32) + nI k).toNatClampNeg = 12 + k := ixK 12 k (by omega)
theorem kc (k : Nat) (h : k < 1000000) : (nI k).toNatClampNeg = k := nI_clamp (by omega)
theorem set_eq {dy3 a9 : Nat → Int32} {p : Int32} (hs : ∀ j : Nat, j < 5 → dy3 j = a9 (12 + j)) : ∀ k : Nat, k ≤ 5 → aX2_setOf_5 dy3 p k = aX10_allThat_4 a9 p k := by
  intro k
  induction k with
  | zero => intro _; rfl
  | succ k ih =>
    intro hk
    rw [aX2_setOf_5, aX10_allThat_4, i12 k (by omega), kc k (by omega), hs k (by omega), ih (by omega), or0]
theorem set_e {dy3 a9 : Nat → Int32} {p n : Int32} (h0 : 0 ≤ n) (h5 : n ≤ 5) (hs : ∀ j : Nat, j < 5 → dy3 j = a9 (12 + j)) : rX2_setOf dy3 p n = rX10_allThat n a9 p := set_eq hs _ (clampLe (n := 5) (b := 5) rfl h0 h5)
theorem owed_eq {dy3 sh5 a8 a9 : Nat → Int32} {n : Nat} (hs : ∀ j : Nat, j < 5 → dy3 j = a9 (12 + j)) (hw : ∀ j : Nat, j < n → sh5 j = a8 j) (hn : n ≤ 5) : ∀ k : Nat, k ≤ n → aX9_owed_4 dy3 sh5 k = aX10_owed_4 a8 a9 k := by
  intro k
  induction k with
  | zero => intro _; rfl
  | succ k ih =>
    intro hk
    rw [aX9_owed_4, aX10_owed_4, i12 k (by omega), kc k (by omega), hs k (by omega), ih (by omega), add00, hw k (by omega)]
theorem e_told {rd0 a11 dy0 dy1 dy2 dy3 dy4 sh0 sh1 sh2 sh3 sh4 sh5 a1 a3 a5 a6 a7 a8 a9 : Nat → Int32} {rd2 a12 dy5 sh6 sh7 sh8 a0 a2 a4 pa2 a26 er2 a31 bk2 a34 p0 : Int32} (hT : rd2 = a12) (hB : RB sh0 sh1 sh2 sh3 sh4 sh5 sh6 sh7 sh8 a0 a1 a2 a3 a4 a5 a6 a7 a8) (hD : RD dy0 dy1 dy2 dy3 dy4 dy5 a9) (hP : pa2 = a26) (hE : er2 = a31) (hK : bk2 = a34) : rX9_told rd2 dy3 dy5 pa2 er2 bk2 sh5 sh6 sh7 sh8 p0 = rX10_told a0 a2 a4 a8 a9 a12 a26 a31 a34 p0 := by
  obtain ⟨⟨rfl, rfl, rfl⟩, -, -, ⟨c0, c5⟩, -, -, -, -, hC⟩ := hB
  obtain ⟨-, -, -, hs, -, rfl⟩ := hD
  subst hT; subst hP; subst hE; subst hK
  unfold rX9_told rX10_told
  rw [set_e c0 c5 hs, set_e c0 c5 hs, set_e c0 c5 hs, set_e c0 c5 hs]
  rw [show rX9_owed dy3 sh5 sh8 = rX10_owed sh8 a8 a9 from owed_eq hs (fun j hj => (hC j hj).2.2.2.1) (clampLe (n := 5) (b := 5) rfl c0 c5) _ (Nat.le_refl _)]
theorem dh_nn {x n : Int32} (h0 : 0 ≤ x) (h1 : x.toInt ≤ 9060) (hn : 0 ≤ n) (hn2 : n ≤ 1000) : 0 ≤ x + n := by
  have h2 : x ≤ 9060 := Int32.le_iff_toInt_le.mpr h1
  grind
section EQ1
variable {dy0 dy1 dy2 dy3 dy4 sh0 sh1 sh2 sh3 sh4 sh5 a1 a3 a5 a6 a7 a8 a9 : Nat → Int32} {dy5 sh6 sh7 sh8 a0 a2 a4 : Int32} {hu ca : Nat}
theorem db_eq {b : Int} (hB : RB sh0 sh1 sh2 sh3 sh4 sh5 sh6 sh7 sh8 a0 a1 a2 a3 a4 a5 a6 a7 a8) (hD : RD dy0 dy1 dy2 dy3 dy4 dy5 a9) (hI : DI hu ca b a9) (hb : b ≤ 9060) (tp : 0 < a0) {x n : Int32} (hn : 0 ≤ n) (hn2 : n ≤ 1000) : rX9_depthBehind dy5 sh0 sh6 x n = rX10_depthBehind a0 a1 a9 x n := by
  obtain ⟨⟨rfl, rfl, rfl⟩, ⟨-, t12⟩, -, -, -, -, hT, -⟩ := hB
  obtain ⟨-, -, -, -, -, rfl⟩ := hD
  exact dep_eq tp t12 hT rfl (dh_nn hI.1.1 (Int.le_trans hI.1.2 hb) hn hn2)
theorem e_depth {p0 p1 : Int32} (hB : RB sh0 sh1 sh2 sh3 sh4 sh5 sh6 sh7 sh8 a0 a1 a2 a3 a4 a5 a6 a7 a8) (hD : RD dy0 dy1 dy2 dy3 dy4 dy5 a9) (hI : DI hu ca 9060 a9) : rX9_depth dy5 sh0 sh6 p0 p1 = rX10_depth a0 a1 a9 p0 p1 := by
  have e6 := hB.1.1
  have t0 := hB.2.1.1
  unfold rX9_depth rX10_depth
  have hd : rX10_in p1.toInt64 0 99 = 0 ↔ ¬ rX9_isOutside p1 0 99 = 0 := out_iff rfl rfl
  simp only [cell_iff, hd]
  by_cases q : rX9_isNoCell p0 = 0
  · by_cases q2 : rX9_isOutside p1 0 99 = 0
    · simp only [if_pos q, if_pos q2, if_neg (not_not_intro q), if_neg (not_not_intro q2)]
      have hs := stands_iff t0
      rw [← e6] at hs ⊢
      simp only [hs]
      split
      · rfl
      · have h := isO.mp q2
        have := db_eq hB hD hI (Int.le_refl _) (by grind) (x := p0) h.1 (Int32.le_trans h.2 (by decide))
        rw [← e6] at this
        exact this
    · simp only [if_pos q, if_neg q2, if_neg (not_not_intro q), if_pos q2, not_false_eq_true, if_true]
  · simp only [if_neg q, if_pos q, not_false_eq_true, if_true]
theorem e_hut {p0 p1 : Int32} (hB : RB sh0 sh1 sh2 sh3 sh4 sh5 sh6 sh7 sh8 a0 a1 a2 a3 a4 a5 a6 a7 a8) (hD : RD dy0 dy1 dy2 dy3 dy4 dy5 a9) : rX9_hut dy0 dy1 dy2 sh1 sh7 p0 p1 = rX10_hut a2 a3 a9 p0 p1 := by
  obtain ⟨⟨rfl, rfl, rfl⟩, -, ⟨h0, h4⟩, -, -, -, -, hH, -⟩ := hB
  obtain ⟨d0, d1, d2, -, -, -⟩ := hD
  unfold rX9_hut rX10_hut
  simp only [hut_iff h0 h4]
  split
  · rfl
  · rename_i q
    have k := hut_ok h4 q
    rw [show ((4 : Int32) + p0).toNatClampNeg = 4 + p0.toNatClampNeg from ixL 4 k.1 (by omega) (by omega), show ((8 : Int32) + p0).toNatClampNeg = 8 + p0.toNatClampNeg from ixL 8 k.1 (by omega) (by omega), (hH _ k.2.1).1, d0 _ k.2.2, d1 _ k.2.2, d2 _ k.2.2]
theorem e_legal {p0 p1 : Int32} (hB : RB sh0 sh1 sh2 sh3 sh4 sh5 sh6 sh7 sh8 a0 a1 a2 a3 a4 a5 a6 a7 a8) (hD : RD dy0 dy1 dy2 dy3 dy4 dy5 a9) : rX9_legal dy3 dy4 sh2 sh3 sh4 sh5 sh8 p0 p1 = rX10_legal a4 a5 a6 a7 a8 a9 p0 p1 := by
  obtain ⟨⟨rfl, rfl, rfl⟩, -, -, ⟨h0, h4⟩, -, -, -, -, hC⟩ := hB
  obtain ⟨-, -, -, d3, d4, -⟩ := hD
  unfold rX9_legal rX10_legal
  simp only [case_iff h0 h4]
  split
  · rfl
  · rename_i q
    have k := case_ok h4 q
    have c := hC _ k.2.1
    rw [show ((12 : Int32) + p0).toNatClampNeg = 12 + p0.toNatClampNeg from ixL 12 k.1 (by omega) (by omega), show ((17 : Int32) + p0).toNatClampNeg = 17 + p0.toNatClampNeg from ixL 17 k.1 (by omega) (by omega), c.1.1, c.2.1.1, c.2.2.1.1, c.2.2.2.1, d3 _ k.2.2, d4 _ k.2.2]
theorem k_bd (k : Nat) (h : k < 1000) : 0 ≤ nI k ∧ nI k ≤ 1000 := ⟨nI_pos' (by omega), nI_le (b := 1000) (by omega) (by decide)⟩
theorem dry_eq {b : Int} (hB : RB sh0 sh1 sh2 sh3 sh4 sh5 sh6 sh7 sh8 a0 a1 a2 a3 a4 a5 a6 a7 a8) (hD : RD dy0 dy1 dy2 dy3 dy4 dy5 a9) (hI : DI hu ca b a9) (hb : b ≤ 9060) (tp : 0 < a0) {p0 : Int32} : ∀ n k : Nat, n + k < 1000 → aX9_dry_25 dy5 sh0 sh6 p0 n k = aX10_dry_22 a0 a1 a9 p0 n k := by
  intro n
  induction n with
  | zero => intro k _; rfl
  | succ n ih =>
    intro k hk
    have kb := k_bd k (by omega)
    rw [aX9_dry_25, aX10_dry_22, db_eq hB hD hI hb tp kb.1 kb.2, ih (k + 1) (by omega)]
theorem stays_eq {b : Int} (hB : RB sh0 sh1 sh2 sh3 sh4 sh5 sh6 sh7 sh8 a0 a1 a2 a3 a4 a5 a6 a7 a8) (hD : RD dy0 dy1 dy2 dy3 dy4 dy5 a9) (hI : DI hu ca b a9) (hb : b ≤ 9060) (tp : 0 < a0) {p0 p1 : Int32} : ∀ n k : Nat, n + k = 100 → aX9_stays_32 dy5 sh0 sh6 p0 p1 n k = aX10_stays_34 a0 a1 a9 p0 p1 n k := by
  intro n
  induction n with
  | zero =>
    intro k hk
    have : k = 100 := by omega
    subst this
    rfl
  | succ n ih =>
    intro k hk
    have kb := k_bd k (by omega)
    rw [aX9_stays_32, aX10_stays_34, db_eq hB hD hI hb tp kb.1 kb.2, ih (k + 1) (by omega)]
    split
    · rename_i q
      rw [if_neg (Int32.not_lt.mpr q)]
    · rename_i q
      rw [if_pos (Int32.not_le.mp q)]
theorem spot_eq {b : Int} (hB : RB sh0 sh1 sh2 sh3 sh4 sh5 sh6 sh7 sh8 a0 a1 a2 a3 a4 a5 a6 a7 a8) (hD : RD dy0 dy1 dy2 dy3 dy4 dy5 a9) (hI : DI hu ca b a9) (hb : b ≤ 9060) (tp : 0 < a0) {p0 : Int32} : ∀ n k : Nat, aX9_spot_25 dy5 sh0 sh6 p0 n k = aX10_spot_27 a0 a1 a9 p0 n k := by
  intro n
  induction n with
  | zero => intro k; rfl
  | succ n ih =>
    intro k
    rw [aX9_spot_25, aX10_spot_27, db_eq hB hD hI hb tp (by decide) (by decide), ih (k + 1)]
theorem e_dry {p0 : Int32} (hB : RB sh0 sh1 sh2 sh3 sh4 sh5 sh6 sh7 sh8 a0 a1 a2 a3 a4 a5 a6 a7 a8) (hD : RD dy0 dy1 dy2 dy3 dy4 dy5 a9) (hI : DI hu ca 9060 a9) : rX9_dry dy5 sh0 sh6 p0 = rX10_dry a0 a1 a9 p0 := by
  have e6 := hB.1.1
  have t0 := hB.2.1.1
  unfold rX9_dry rX10_dry
  simp only [cell_iff]
  by_cases q : rX9_isNoCell p0 = 0
  · simp only [if_pos q, if_neg (not_not_intro q)]
    have hs := stands_iff t0
    rw [← e6] at hs ⊢
    simp only [hs]
    split
    · rfl
    · have := dry_eq hB hD hI (Int.le_refl _) (by grind) (p0 := p0) 101 0 (by omega)
      rw [← e6] at this
      exact this
  · simp only [if_neg q, if_pos q, not_false_eq_true, if_true]
theorem e_stays {p0 p1 : Int32} (hB : RB sh0 sh1 sh2 sh3 sh4 sh5 sh6 sh7 sh8 a0 a1 a2 a3 a4 a5 a6 a7 a8) (hD : RD dy0 dy1 dy2 dy3 dy4 dy5 a9) (hI : DI hu ca 9060 a9) : rX9_stays dy5 sh0 sh6 p0 p1 = rX10_stays a0 a1 a9 p0 p1 := by
  have e6 := hB.1.1
  have t0 := hB.2.1.1
  unfold rX9_stays rX10_stays
  have hd : rX10_in p1.toInt64 0 10 = 0 ↔ ¬ rX9_isNoDepth p1 = 0 := out_iff rfl rfl
  simp only [cell_iff, hd]
  by_cases q : rX9_isNoCell p0 = 0
  · by_cases q2 : rX9_isNoDepth p1 = 0
    · simp only [if_pos q, if_neg (not_not_intro q), if_pos q2, if_neg (not_not_intro q2)]
      have hs := stands_iff t0
      rw [← e6] at hs ⊢
      simp only [hs]
      split
      · rfl
      · have := stays_eq hB hD hI (Int.le_refl _) (by grind) (p0 := p0) (p1 := p1) 100 0 (by omega)
        rw [← e6] at this
        exact this
    · simp only [if_pos q, if_neg (not_not_intro q), if_neg q2, if_pos q2, not_false_eq_true, if_true]
  · simp only [if_neg q, if_pos q, not_false_eq_true, if_true]
theorem e_spot {p0 : Int32} (hB : RB sh0 sh1 sh2 sh3 sh4 sh5 sh6 sh7 sh8 a0 a1 a2 a3 a4 a5 a6 a7 a8) (hD : RD dy0 dy1 dy2 dy3 dy4 dy5 a9) (hI : DI hu ca 9060 a9) : rX9_spot dy5 sh0 sh6 p0 = rX10_spot a0 a1 a9 p0 := by
  have e6 := hB.1.1
  have t0 := hB.2.1.1
  unfold rX9_spot rX10_spot
  have hd : rX10_in p0.toInt64 0 10 = 0 ↔ ¬ rX9_isNoDepth p0 = 0 := out_iff rfl rfl
  simp only [hd]
  by_cases q2 : rX9_isNoDepth p0 = 0
  · simp only [if_pos q2, if_neg (not_not_intro q2)]
    have hs := stands_iff t0
    rw [← e6] at hs ⊢
    simp only [hs]
    split
    · rfl
    · have := spot_eq hB hD hI (Int.le_refl _) (by grind) (p0 := p0) 10 0
      rw [← e6] at this
      exact this
  · simp only [if_neg q2, if_pos q2, not_false_eq_true, if_true]
end EQ1
