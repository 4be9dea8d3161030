section EQ5
variable {dy0 dy1 dy2 dy3 dy4 f g : Nat → Int32} {dy5 : Int32} {hu ca : Nat} {b : Int}
theorem save_at {fr : Nat → Int32} (hD : RD dy0 dy1 dy2 dy3 dy4 dy5 f) {a : Nat} (ha : a < 100000) (m : Nat) : sX2_saveTo_free_rows dy0 dy1 dy2 dy3 dy4 dy5 fr (nI a) m = if a ≤ m ∧ m < a + 23 then f (m - a) else fr m := by
  obtain ⟨d0, d1, d2, d3, d4, d5⟩ := hD
  unfold sX2_saveTo_free_rows
  rw [show (nI a + (4 : Int32)).toNatClampNeg = a + 4 from (by rw [show nI a + (4 : Int32) = nI (a + 4) from nI_add a 4, nI_clamp (by omega)]), show (nI a + (8 : Int32)).toNatClampNeg = a + 8 from (by rw [show nI a + (8 : Int32) = nI (a + 8) from nI_add a 8, nI_clamp (by omega)]), show (nI a + (12 : Int32)).toNatClampNeg = a + 12 from (by rw [show nI a + (12 : Int32) = nI (a + 12) from nI_add a 12, nI_clamp (by omega)]), show (nI a + (12 : Int32) + (5 : Int32)).toNatClampNeg = a + 17 from (by rw [show nI a + (12 : Int32) = nI (a + 12) from nI_add a 12, show nI (a + 12) + (5 : Int32) = nI (a + 17) from nI_add (a + 12) 5, nI_clamp (by omega)]), show (nI a + (23 : Int32) - (1 : Int32)).toNatClampNeg = a + 22 from (by rw [show nI a + (23 : Int32) = nI (a + 23) from nI_add a 23, show nI (a + 23) - (1 : Int32) = nI (a + 23 - 1) from pk_sub (b := 1) (by omega), nI_clamp (by omega)]; omega), kc a (by omega), show (0 : Int32).toNatClampNeg = 0 from rfl, show (4 : Int32).toNatClampNeg = 4 from rfl, show (5 : Int32).toNatClampNeg = 5 from rfl]
  unfold upd va_cpy
  by_cases q : a ≤ m ∧ m < a + 23
  · rw [if_pos q]
    obtain ⟨q1, q2⟩ := q
    by_cases c1 : m = a + 22
    · rw [if_pos c1, d5]; congr 1; omega
    · rw [if_neg c1]
      by_cases c2 : a + 17 ≤ m ∧ m < a + 17 + 5
      · rw [if_pos c2, d4 _ (by omega)]; congr 1; omega
      · rw [if_neg c2]
        by_cases c3 : a + 12 ≤ m ∧ m < a + 12 + 5
        · rw [if_pos c3, d3 _ (by omega)]; congr 1; omega
        · rw [if_neg c3]
          by_cases c4 : a + 8 ≤ m ∧ m < a + 8 + 4
          · rw [if_pos c4, d2 _ (by omega)]; congr 1; omega
          · rw [if_neg c4]
            by_cases c5 : a + 4 ≤ m ∧ m < a + 4 + 4
            · rw [if_pos c5, d1 _ (by omega)]; congr 1; omega
            · rw [if_neg c5, if_pos (by omega), d0 _ (by omega)]; congr 1; omega
  · rw [if_neg q, if_neg (by omega), if_neg (by omega), if_neg (by omega), if_neg (by omega), if_neg (by omega), if_neg (by omega)]
theorem load_rd {fr : Nat → Int32} {a : Nat} (ha : a < 100000) (h : ∀ k : Nat, k < 23 → fr (a + k) = f k) : RD (sX2_loadFrom_0 dy0 fr (nI a)) (sX2_loadFrom_1 dy1 fr (nI a)) (sX2_loadFrom_2 dy2 fr (nI a)) (sX2_loadFrom_3 dy3 fr (nI a)) (sX2_loadFrom_4 dy4 fr (nI a)) (sX2_loadFrom_5 fr (nI a)) f := by
  unfold sX2_loadFrom_0 sX2_loadFrom_1 sX2_loadFrom_2 sX2_loadFrom_3 sX2_loadFrom_4 sX2_loadFrom_5
  rw [show (nI a + (4 : Int32)).toNatClampNeg = a + 4 from (by rw [show nI a + (4 : Int32) = nI (a + 4) from nI_add a 4, nI_clamp (by omega)]), show (nI a + (8 : Int32)).toNatClampNeg = a + 8 from (by rw [show nI a + (8 : Int32) = nI (a + 8) from nI_add a 8, nI_clamp (by omega)]), show (nI a + (12 : Int32)).toNatClampNeg = a + 12 from (by rw [show nI a + (12 : Int32) = nI (a + 12) from nI_add a 12, nI_clamp (by omega)]), show (nI a + (12 : Int32) + (5 : Int32)).toNatClampNeg = a + 17 from (by rw [show nI a + (12 : Int32) = nI (a + 12) from nI_add a 12, show nI (a + 12) + (5 : Int32) = nI (a + 17) from nI_add (a + 12) 5, nI_clamp (by omega)]), show (nI a + (23 : Int32) - (1 : Int32)).toNatClampNeg = a + 22 from (by rw [show nI a + (23 : Int32) = nI (a + 23) from nI_add a 23, show nI (a + 23) - (1 : Int32) = nI (a + 23 - 1) from pk_sub (b := 1) (by omega), nI_clamp (by omega)]; omega), kc a (by omega), show (0 : Int32).toNatClampNeg = 0 from rfl, show (4 : Int32).toNatClampNeg = 4 from rfl, show (5 : Int32).toNatClampNeg = 5 from rfl]
  unfold va_cpy
  refine ⟨fun j hj => ?_, fun j hj => ?_, fun j hj => ?_, fun j hj => ?_, fun j hj => ?_, h 22 (by omega)⟩
  · show (if 0 ≤ j ∧ j < 0 + 4 then fr (a + (j - 0)) else dy0 j) = f j
    rw [if_pos (by omega), ← h j (by omega)]; congr 1
  · show (if 0 ≤ j ∧ j < 0 + 4 then fr (a + 4 + (j - 0)) else dy1 j) = f (4 + j)
    rw [if_pos (by omega), ← h (4 + j) (by omega)]; congr 1; omega
  · show (if 0 ≤ j ∧ j < 0 + 4 then fr (a + 8 + (j - 0)) else dy2 j) = f (8 + j)
    rw [if_pos (by omega), ← h (8 + j) (by omega)]; congr 1; omega
  · show (if 0 ≤ j ∧ j < 0 + 5 then fr (a + 12 + (j - 0)) else dy3 j) = f (12 + j)
    rw [if_pos (by omega), ← h (12 + j) (by omega)]; congr 1; omega
  · show (if 0 ≤ j ∧ j < 0 + 5 then fr (a + 17 + (j - 0)) else dy4 j) = f (17 + j)
    rw [if_pos (by omega), ← h (17 + j) (by omega)]; congr 1; omega
theorem rem12 {a27 : Nat → Int32} : ∀ k : Nat, k ≤ 437 → ∀ m : Nat, aX10_remember_12 a27 k m = if m < k then a27 (m + 23) else a27 m := by
  intro k
  induction k with
  | zero => intro _ m; rw [aX10_remember_12, if_neg (by omega)]
  | succ k ih =>
    intro hk m
    have ih := ih (by omega)
    rw [aX10_remember_12, show nI (k + 23) - (23 : Int32) = nI (k + 23 - 23) from pk_sub (b := 23) (by omega), nI_clamp (by omega), nI_clamp (by omega)]
    by_cases e : m = k
    · subst e
      rw [show m + 23 - 23 = m by omega, up_s, ih, if_neg (by omega), if_pos (by omega)]
    · rw [up_n (by omega), ih]
      by_cases q : m < k
      · rw [if_pos q, if_pos (by omega)]
      · rw [if_neg q, if_neg (by omega)]
theorem rem52 {a27 : Nat → Int32} {u : Nat} (hu : u < 20) : ∀ k : Nat, k ≤ 23 → ∀ m : Nat, aX10_remember_52 f (nI u) a27 k m = if 23 * u ≤ m ∧ m < 23 * u + k then f (m - 23 * u) else a27 m := by
  intro k
  induction k with
  | zero => intro _ m; rw [aX10_remember_52, if_neg (by omega)]
  | succ k ih =>
    intro hk m
    have ih := ih (by omega)
    rw [aX10_remember_52, show (23 : Int32) * nI u = nI (23 * u) from pk_mul 23 u, nI_add, nI_clamp (by omega), nI_clamp (by omega)]
    by_cases e : m = 23 * u + k
    · subst e
      rw [up_s, if_pos (by omega)]; congr 1; omega
    · rw [up_n e, ih]
      by_cases q : 23 * u ≤ m ∧ m < 23 * u + k
      · rw [if_pos q, if_pos (by omega)]
      · rw [if_neg q, if_neg (by omega)]
theorem rem52b {v : Nat → Int32} : ∀ k : Nat, k ≤ 23 → ∀ m : Nat, aX10_remember_52b f 20 v k m = if 437 ≤ m ∧ m < 437 + k then f (m - 437) else v m := by
  intro k
  induction k with
  | zero => intro _ m; rw [aX10_remember_52b, if_neg (by omega)]
  | succ k ih =>
    intro hk m
    have ih := ih (by omega)
    rw [aX10_remember_52b, show (23 : Int32) * ((20 : Int32) - 1) = nI 437 from by decide, nI_add, nI_clamp (by omega), nI_clamp (by omega)]
    by_cases e : m = 437 + k
    · subst e
      rw [up_s, if_pos (by omega)]; exact congrArg f (by omega)
    · rw [up_n e, ih]
      by_cases q : 437 ≤ m ∧ m < 437 + k
      · rw [if_pos q, if_pos (by omega)]
      · rw [if_neg q, if_neg (by omega)]
/-- what may be undone, one more -/
theorem push_rp {pa0 a27 : Nat → Int32} {pa1 pa2 a26 : Int32} (hc5 : ca ≤ 5) (hD : RD dy0 dy1 dy2 dy3 dy4 dy5 f) (hI : DI hu ca 9060 f) (hP : RP hu ca pa0 pa1 pa2 a26 a27) : RP hu ca (sX6_push_0 pa0 pa1 dy0 dy1 dy2 dy3 dy4 dy5) (sX6_push_1 pa1) (sX6_push_2 pa2) (sX10_remember_26 a26) (sX10_remember_27 f a26 a27) := by
  obtain ⟨rfl, u0, u20, n0, n20, hr⟩ := hP
  obtain ⟨u, hU, rfl⟩ := nI_of2 (M := 20) (n := 20) rfl (Int32.not_lt.mpr u0) u20
  obtain ⟨n, hn, rfl⟩ := nI_of2 (M := 20) (n := 20) rfl (Int32.not_lt.mpr n0) (Int32.le_of_lt n20)
  have hn' : n < 20 := by
    have := Int32.lt_iff_toInt_lt.mp n20
    rw [nI_toInt (by omega)] at this
    have e : (20 : Int32).toInt = 20 := rfl
    omega
  rw [kc u (by omega), kc n (by omega)] at hr
  have e1 : sX6_push_1 (nI n) = nI ((n + 1) % 20) := by
    unfold sX6_push_1
    rw [nI_1]
    exact pk_rem (d := 20) (by omega) (by decide) (by decide)
  have hm : (n + 1) % 20 < 20 := Nat.mod_lt _ (by decide)
  have e0 : ∀ m : Nat, sX6_push_0 pa0 (nI n) dy0 dy1 dy2 dy3 dy4 dy5 m = if (n + 1) % 20 * 23 ≤ m ∧ m < (n + 1) % 20 * 23 + 23 then f (m - (n + 1) % 20 * 23) else pa0 m := fun m => by
    unfold sX6_push_0
    rw [nI_1, show nI (n + 1) - nI (n + 1) / (20 : Int32) * (20 : Int32) = nI ((n + 1) % 20) from pk_rem (d := 20) (by omega) (by decide) (by decide), show nI ((n + 1) % 20) * (23 : Int32) = nI ((n + 1) % 20 * 23) from pk_mul _ 23]
    exact save_at hD (by omega) m
  by_cases q : u = 20
  · subst q
    have e2 : sX6_push_2 (nI 20) = nI 20 := by decide
    have e3 : sX10_remember_26 (nI 20) = nI 20 := by decide
    have e4 : ∀ m : Nat, m < 460 → sX10_remember_27 f (nI 20) a27 m = if 437 ≤ m then f (m - 437) else a27 (m + 23) := fun m hm => by
      unfold sX10_remember_27
      rw [if_pos (show nI 20 = (20 : Int32) from by decide), show nI 20 = (20 : Int32) from by decide, rem52b 23 (Nat.le_refl _)]
      by_cases c : 437 ≤ m
      · rw [if_pos ⟨c, by omega⟩, if_pos c]
      · rw [if_neg (by omega), if_neg c, rem12 437 (Nat.le_refl _), if_pos (by omega)]
    rw [e1, e2, e3]
    refine ⟨rfl, by decide, by decide, nI_pos' (by omega), nI_lt (b := 20) hm (by decide), fun i hi => ?_⟩
    rw [kc 20 (by omega)] at hi
    rw [kc ((n + 1) % 20) (by omega), kc 20 (by omega)]
    by_cases i0 : i = 0
    · subst i0
      refine ⟨fun k hk => ?_, DI_congr (fun k hk => ?_) hc5 hI⟩
      · rw [e0, e4 _ (by omega), if_pos (by omega), if_pos (by omega)]; exact congrArg f (by omega)
      · rw [e4 _ (by omega), if_pos (by omega)]; exact congrArg f (by omega)
    · have r := hr (i - 1) (by omega)
      have em : ((n + 1) % 20 + 20 - i) % 20 = (n + 20 - (i - 1)) % 20 := by omega
      refine ⟨fun k hk => ?_, DI_congr (fun k hk => ?_) hc5 r.2⟩
      · rw [e0, e4 _ (by omega), if_neg (by omega), if_neg (by omega), em, r.1 k hk]; exact congrArg a27 (by omega)
      · rw [e4 _ (by omega), if_neg (by omega)]; exact congrArg a27 (by omega)
  · have e2 : sX6_push_2 (nI u) = nI (u + 1) := by
      unfold sX6_push_2
      have h20 : ¬ (20 : Int32) < nI (u + 1) := Int32.not_lt.mpr (nI_le (a := u + 1) (b := 20) (by omega) (by decide))
      rw [nI_1, if_neg h20]
    have q20 : ¬ nI u = (20 : Int32) := fun e => q (nI_i (by omega) (by omega) e)
    have e3 : sX10_remember_26 (nI u) = nI (u + 1) := by
      unfold sX10_remember_26
      rw [if_neg q20, nI_1]
    have e4 : ∀ m : Nat, sX10_remember_27 f (nI u) a27 m = if 23 * u ≤ m ∧ m < 23 * u + 23 then f (m - 23 * u) else a27 m := fun m => by
      unfold sX10_remember_27
      rw [if_neg q20, rem52 (by omega) 23 (Nat.le_refl _)]
    rw [e1, e2, e3]
    refine ⟨rfl, nI_pos' (by omega), nI_le (b := 20) (by omega) (by decide), nI_pos' (by omega), nI_lt (b := 20) hm (by decide), fun i hi => ?_⟩
    rw [kc (u + 1) (by omega)] at hi
    rw [kc ((n + 1) % 20) (by omega), kc (u + 1) (by omega)]
    by_cases i0 : i = 0
    · subst i0
      refine ⟨fun k hk => ?_, DI_congr (fun k hk => ?_) hc5 hI⟩
      · rw [e0, e4, if_pos (by omega), if_pos (by omega)]; exact congrArg f (by omega)
      · rw [e4, if_pos (by omega)]; exact congrArg f (by omega)
    · have r := hr (i - 1) (by omega)
      have em : ((n + 1) % 20 + 20 - i) % 20 = (n + 20 - (i - 1)) % 20 := by omega
      refine ⟨fun k hk => ?_, DI_congr (fun k hk => ?_) hc5 r.2⟩
      · rw [e0, e4, if_neg (by omega), if_neg (by omega), em, r.1 k hk]; exact congrArg a27 (by omega)
      · rw [e4, if_neg (by omega)]; exact congrArg a27 (by omega)
theorem und22 {a9 a27 : Nat → Int32} {u : Nat} (hu : 1 ≤ u) (hu2 : u ≤ 20) : ∀ k : Nat, k ≤ 23 → ∀ m : Nat, aX10_undo_22 a9 (nI u) a27 k m = if m < k then a27 (23 * (u - 1) + m) else a9 m := by
  intro k
  induction k with
  | zero => intro _ m; rw [aX10_undo_22, if_neg (by omega)]
  | succ k ih =>
    intro hk m
    have ih := ih (by omega)
    rw [aX10_undo_22, show nI u - (1 : Int32) = nI (u - 1) from pk_sub (b := 1) hu, show (23 : Int32) * nI (u - 1) = nI (23 * (u - 1)) from pk_mul 23 (u - 1), nI_add, nI_clamp (by omega), nI_clamp (by omega)]
    by_cases e : m = k
    · subst e
      rw [up_s, if_pos (by omega)]
    · rw [up_n e, ih]
      by_cases q : m < k
      · rw [if_pos q, if_pos (by omega)]
      · rw [if_neg q, if_neg (by omega)]
theorem e_undo {pa0 a27 a9 : Nat → Int32} {pa1 pa2 a26 : Int32} (hc5 : ca ≤ 5) (hD : RD dy0 dy1 dy2 dy3 dy4 dy5 a9) (hI : DI hu ca 9060 a9) (hP : RP hu ca pa0 pa1 pa2 a26 a27) : rX9_undo pa2 = rX10_undo a26 ∧ RD (sX9_undo_o1_0 dy0 pa0 pa1 pa2) (sX9_undo_o1_1 dy1 pa0 pa1 pa2) (sX9_undo_o1_2 dy2 pa0 pa1 pa2) (sX9_undo_o1_3 dy3 pa0 pa1 pa2) (sX9_undo_o1_4 dy4 pa0 pa1 pa2) (sX9_undo_o1_5 dy5 pa0 pa1 pa2) (sX10_undo_9 a9 a26 a27) ∧ DI hu ca 9060 (sX10_undo_9 a9 a26 a27) ∧ RP hu ca pa0 (sX9_undo_o2_1 pa1 pa2) (sX9_undo_o2_2 pa2) (sX10_undo_26 a26) a27 := by
  have hP' := hP
  obtain ⟨rfl, u0, u20, n0, n20, hr⟩ := hP
  obtain ⟨u, hU, rfl⟩ := nI_of2 (M := 20) (n := 20) rfl (Int32.not_lt.mpr u0) u20
  obtain ⟨n, hn, rfl⟩ := nI_of2 (M := 20) (n := 20) rfl (Int32.not_lt.mpr n0) (Int32.le_of_lt n20)
  have hn' : n < 20 := by
    have := Int32.lt_iff_toInt_lt.mp n20
    rw [nI_toInt (by omega)] at this
    have e : (20 : Int32).toInt = 20 := rfl
    omega
  unfold rX9_undo rX10_undo sX9_undo_o1_0 sX9_undo_o1_1 sX9_undo_o1_2 sX9_undo_o1_3 sX9_undo_o1_4 sX9_undo_o1_5 sX10_undo_9 sX9_undo_o2_1 sX9_undo_o2_2 sX10_undo_26
  by_cases q : nI u = 0
  · simp only [if_pos q]
    exact ⟨trivial, hD, hI, hP'⟩
  · simp only [if_neg q]
    have u1 : 1 ≤ u := by
      rcases Nat.eq_zero_or_pos u with z | z
      · exact absurd (by rw [z]; rfl) q
      · exact z
    have hpos : ¬ nI u ≤ 0 := fun e => q (by
      have := Int32.le_iff_toInt_le.mp e
      rw [nI_toInt (by omega)] at this
      have e0 : (0 : Int32).toInt = 0 := rfl
      omega)
    rw [kc u (by omega), kc n (by omega)] at hr
    have r := hr 0 (by omega)
    have hrow : ∀ k : Nat, k < 23 → pa0 (n * 23 + k) = aX10_undo_22 a9 (nI u) a27 23 k := fun k hk => by
      rw [und22 u1 hU 23 (Nat.le_refl _), if_pos hk]
      have := r.1 k hk
      rw [show (n + 20 - 0) % 20 = n by omega, show u - 1 - 0 = u - 1 by omega] at this
      rw [← this]; exact congrArg pa0 (by omega)
    have hDI : DI hu ca 9060 (aX10_undo_22 a9 (nI u) a27 23) := DI_congr (fun k hk => by rw [und22 u1 hU 23 (Nat.le_refl _), if_pos hk]; exact congrArg a27 (by omega)) hc5 r.2
    simp only [sX6_pop_arg0_0, sX6_pop_arg0_1, sX6_pop_arg0_2, sX6_pop_arg0_3, sX6_pop_arg0_4, sX6_pop_arg0_5, sX6_pop_1, sX6_pop_2, if_neg hpos]
    rw [show nI n * (23 : Int32) = nI (n * 23) from pk_mul n 23]
    refine ⟨trivial, load_rd (by omega) hrow, hDI, ?_⟩
    rw [show nI u - (1 : Int32) = nI (u - 1) from pk_sub (b := 1) u1, show nI n + (20 : Int32) = nI (n + 20) from nI_add n 20, show nI (n + 20) - (1 : Int32) = nI (n + 20 - 1) from pk_sub (b := 1) (by omega), show nI (n + 20 - 1) - nI (n + 20 - 1) / (20 : Int32) * (20 : Int32) = nI ((n + 20 - 1) % 20) from pk_rem (d := 20) (by omega) (by decide) (by decide)]
    have hm : (n + 20 - 1) % 20 < 20 := Nat.mod_lt _ (by decide)
    refine ⟨rfl, nI_pos' (by omega), nI_le (b := 20) (by omega) (by decide), nI_pos' (by omega), nI_lt (b := 20) hm (by decide), fun i hi => ?_⟩
    rw [kc (u - 1) (by omega)] at hi
    rw [kc ((n + 20 - 1) % 20) (by omega), kc (u - 1) (by omega)]
    have r2 := hr (i + 1) (by omega)
    rw [show ((n + 20 - 1) % 20 + 20 - i) % 20 = (n + 20 - (i + 1)) % 20 by omega, show u - 1 - 1 - i = u - 1 - (i + 1) by omega]
    exact r2
end EQ5
