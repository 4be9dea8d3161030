section EQ7
variable {dy0 dy1 dy2 dy3 dy4 sh0 sh1 sh2 sh3 sh4 sh5 a1 a3 a5 a6 a7 a8 a9 f : Nat → Int32} {dy5 sh6 sh7 sh8 a0 a2 a4 : Int32} {b : Int} {hu ca : Nat}
/-- a case in a hut is told for an hour -/
theorem tell_eq (hB : RB sh0 sh1 sh2 sh3 sh4 sh5 sh6 sh7 sh8 a0 a1 a2 a3 a4 a5 a6 a7 a8) (hD : RD dy0 dy1 dy2 dy3 dy4 dy5 f) (hI : DI (a2.toNatClampNeg) (a4.toNatClampNeg) b f) (tp : 0 < a0) {h c : Nat} (hh : h < 4) (hc : c < a4.toNatClampNeg) (hin : f (4 + h) = nI c) :
    RD dy0 (sX2_hearCase_1 dy1 dy4 sh2 sh3 sh4 (nI c) (rX0_depthAt sh0 sh6 (dy0 h) dy5)) dy2 (sX2_hearCase_3 dy3 dy4 sh2 sh3 sh4 (nI c) (rX0_depthAt sh0 sh6 (dy0 h) dy5)) (sX2_hearCase_4 dy4 sh2 sh3 sh4 (nI c) (rX0_depthAt sh0 sh6 (dy0 h) dy5)) dy5 (sX10_tell_9 a0 a1 a5 a6 a7 f (nI h) (nI c)) ∧ DI (a2.toNatClampNeg) (a4.toNatClampNeg) b (sX10_tell_9 a0 a1 a5 a6 a7 f (nI h) (nI c)) := by
  obtain ⟨⟨rfl, rfl, rfl⟩, ⟨-, t12⟩, -, ⟨c0, c5⟩, -, -, hT, -, hC⟩ := hB
  have hc5 := clampLe (n := 5) (b := 5) rfl c0 c5
  have cc := hC c hc
  have ed : rX0_depthAt sh0 sh6 (dy0 h) dy5 = rX10_depthBehind sh6 a1 f (f (nI h).toNatClampNeg) 0 := by
    rw [kc h (by omega), ← hD.1 h hh]
    refine dep_eq tp t12 hT ?_ ?_
    · rw [hD.2.2.2.2.2, add0]
    · rw [hD.2.2.2.2.2]; exact hI.1.1
  have e12 : ((12 : Int32) + nI c).toNatClampNeg = 12 + c := ixK 12 c (by omega)
  have e17 : ((17 : Int32) + nI c).toNatClampNeg = 17 + c := ixK 17 c (by omega)
  have e4 : ((4 : Int32) + nI h).toNatClampNeg = 4 + h := ixK 4 h (by omega)
  have ec : (nI c).toNatClampNeg = c := kc c (by omega)
  have eh : dy4 c = f (17 + c) := hD.2.2.2.2.1 c (by omega)
  unfold sX2_hearCase_1 sX2_hearCase_3 sX2_hearCase_4 sX10_tell_9
  rw [ed]
  generalize rX10_depthBehind sh6 a1 f (f (nI h).toNatClampNeg) 0 = d
  unfold rX0_isTooDeep rX0_isDeepEnough
  simp only [e12, e17, e4, ec, cc.1.1, cc.2.1.1, cc.2.2.1.1, eh]
  -- the end of the case, by a number v
  have fin : ∀ (g : Nat → Int32) (w4 : Nat → Int32) (v : Int32), 0 ≤ v → v ≤ 4 → RD dy0 dy1 dy2 dy3 w4 dy5 g → DI (sh7.toNatClampNeg) (sh8.toNatClampNeg) b g → g (4 + h) = nI c → RD dy0 (sX2_endCase_1 dy1 (nI c)) dy2 (sX2_endCase_3 dy3 (nI c) v) w4 dy5 (upd (upd g (12 + c) v) (4 + h) (-1)) ∧ DI (sh7.toNatClampNeg) (sh8.toNatClampNeg) b (upd (upd g (12 + c) v) (4 + h) (-1)) := fun g w4 v v0 v4 gD gI gin => by
    have uq : ∀ j : Nat, j < 4 → j ≠ h → g (4 + j) ≠ nI c := fun j hj n e => by
      have := gI.2.2.2.2.1 j h hj hh (e.trans gin.symm) (by rw [e]; exact nI_m1 (by omega))
      exact n this
    have hup : ∀ j : Nat, j < 4 → upd (upd g (12 + c) v) (4 + h) (-1) (4 + j) = if g (4 + j) = nI c then -1 else g (4 + j) := fun j hj => by
      by_cases e : j = h
      · subst e
        rw [up_s, if_pos gin]
      · rw [up_n (by omega), up_n (by omega), if_neg (uq j hj e)]
    have d3 := RD_3 gD (c := c) (by omega) v
    refine ⟨⟨fun j hj => by rw [up_n (by omega)]; exact d3.1 j hj, fun j hj => ?_, fun j hj => by rw [up_n (by omega)]; exact d3.2.2.1 j hj, fun j hj => ?_, fun j hj => by rw [up_n (by omega)]; exact d3.2.2.2.2.1 j hj, by rw [up_n (by omega)]; exact d3.2.2.2.2.2⟩, ?_⟩
    · rw [hup j hj, end1 (nI_m1 (by omega)) hj, gD.2.1 j hj]
    · rw [up_n (by omega), ← d3.2.2.2.1 j hj]
      unfold sX2_endCase_3
      rw [ec]
    · exact DI_end hc5 gI hc v0 v4 hup (by rw [up_n (by omega), up_s]) (fun k hk h1 h2 => by rw [up_n (by omega), up_n h2])
  by_cases q1 : d ≤ a5 c + a7 c
  · have z : ((if d ≤ a5 c + a7 c then (0 : Int32) else 1) = 0) := if_pos q1
    simp only [if_pos q1, if_true]
    by_cases q2 : d < a5 c
    · have z2 : ((if d < a5 c then (0 : Int32) else 1) = 0) := if_pos q2
      simp only [if_pos q2, if_true]
      exact ⟨hD, hI⟩
    · have z2 : ¬ ((1 : Int32) = 0) := by decide
      simp only [if_neg q2, if_neg z2]
      have hD4 := RD_4 hD (c := c) (by omega) (f (17 + c) + 1)
      have hI4 : DI (sh7.toNatClampNeg) (sh8.toNatClampNeg) b (upd f (17 + c) (f (17 + c) + 1)) := DI_free hI hc5 (Or.inl (by omega))
      by_cases q3 : f (17 + c) + 1 < a6 c
      · simp only [if_pos q3]
        exact ⟨hD4, hI4⟩
      · simp only [if_neg q3]
        exact fin _ _ 2 (by decide) (by decide) hD4 hI4 (by rw [up_n (by omega)]; exact hin)
  · have z2 : ¬ ((1 : Int32) = 0) := by decide
    simp only [if_neg q1, if_neg z2]
    exact fin f dy4 4 (by decide) (by decide) hD hI hin
theorem pass2 (hB : RB sh0 sh1 sh2 sh3 sh4 sh5 sh6 sh7 sh8 a0 a1 a2 a3 a4 a5 a6 a7 a8) (hD : RD dy0 dy1 dy2 dy3 dy4 dy5 f) (hI : DI (a2.toNatClampNeg) (a4.toNatClampNeg) b f) (tp : 0 < a0) : ∀ k : Nat, k ≤ 4 → RD dy0 (aX2_passHour_2 dy0 dy1 dy2 dy3 dy4 dy5 sh0 sh2 sh3 sh4 sh6 sh8 k).1 (aX2_passHour_2 dy0 dy1 dy2 dy3 dy4 dy5 sh0 sh2 sh3 sh4 sh6 sh8 k).2.1 (aX2_passHour_2 dy0 dy1 dy2 dy3 dy4 dy5 sh0 sh2 sh3 sh4 sh6 sh8 k).2.2.1 (aX2_passHour_2 dy0 dy1 dy2 dy3 dy4 dy5 sh0 sh2 sh3 sh4 sh6 sh8 k).2.2.2 dy5 (aX10_pass_2 a0 a1 a5 a6 a7 f k) ∧ DI (a2.toNatClampNeg) (a4.toNatClampNeg) b (aX10_pass_2 a0 a1 a5 a6 a7 f k) := by
  have c0 := hB.2.2.2.1
  have hc5 := clampLe (n := 5) (b := 5) rfl c0.1 c0.2
  intro k
  induction k with
  | zero => intro _; exact ⟨hD, hI⟩
  | succ k ih =>
    intro hk
    obtain ⟨ihD, ihI⟩ := ih (by omega)
    have i4 : ((4 : Int32) + nI k).toNatClampNeg = 4 + k := ixK 4 k (by omega)
    have i8 : ((8 : Int32) + nI k).toNatClampNeg = 8 + k := ixK 8 k (by omega)
    have ek : (nI k).toNatClampNeg = k := kc k (by omega)
    rw [aX2_passHour_2, aX10_pass_2]
    generalize aX2_passHour_2 dy0 dy1 dy2 dy3 dy4 dy5 sh0 sh2 sh3 sh4 sh6 sh8 k = t at ihD ⊢
    generalize aX10_pass_2 a0 a1 a5 a6 a7 f k = g at ihD ihI ⊢
    simp only [i4, i8, ek, ihD.2.1 k (by omega), hB.1.2.2]
    rcases ihI.2.2.1 k (by omega) with q | ⟨c, h1, h2, h3⟩
    · have z1 : rX0_hasCase a4 (g (4 + k)) = 0 := by rw [q]; unfold rX0_hasCase; rw [if_pos (by decide)]
      have z2 : g (4 + k) < 0 := by rw [q]; decide
      simp only [if_pos z1, if_pos z2]
      exact ⟨RD_2 ihD (by omega) 0, DI_free ihI hc5 (Or.inr ⟨by omega, by omega, rfl⟩)⟩
    · have z1 : ¬ rX0_hasCase a4 (g (4 + k)) = 0 := by
        rw [h2]
        unfold rX0_hasCase
        have e := clampEq c0.1
        rw [if_neg (nI_pos (by omega)), if_neg]
        · decide
        · rw [e]
          exact Int32.not_le.mpr (nI_lt h1 (by omega))
      have z2 : ¬ g (4 + k) < 0 := by rw [h2]; exact nI_pos (by omega)
      simp only [if_neg z1, if_neg z2]
      have te := tell_eq hB ihD ihI tp (h := k) (c := c) (by omega) h1 h2
      rw [h2]
      exact ⟨RD_2 te.1 (by omega) 0, DI_free te.2 hc5 (Or.inr ⟨by omega, by omega, rfl⟩)⟩
theorem pass_eq (hB : RB sh0 sh1 sh2 sh3 sh4 sh5 sh6 sh7 sh8 a0 a1 a2 a3 a4 a5 a6 a7 a8) (hD : RD dy0 dy1 dy2 dy3 dy4 dy5 f) (hI : DI (a2.toNatClampNeg) (a4.toNatClampNeg) b f) (hb : b < 2147483647) (tp : 0 < a0) : RD dy0 (sX2_passHour_1 dy0 dy1 dy2 dy3 dy4 dy5 sh0 sh2 sh3 sh4 sh6 sh7 sh8) (sX2_passHour_2 dy0 dy1 dy2 dy3 dy4 dy5 sh0 sh2 sh3 sh4 sh6 sh7 sh8) (sX2_passHour_3 dy0 dy1 dy2 dy3 dy4 dy5 sh0 sh2 sh3 sh4 sh6 sh7 sh8) (sX2_passHour_4 dy0 dy1 dy2 dy3 dy4 dy5 sh0 sh2 sh3 sh4 sh6 sh7 sh8) (sX2_passHour_5 dy5) (sX10_pass_9 a0 a1 a2 a5 a6 a7 f) ∧ DI (a2.toNatClampNeg) (a4.toNatClampNeg) (b + 1) (sX10_pass_9 a0 a1 a2 a5 a6 a7 f) := by
  have h0 := hB.2.2.1
  have hu4 := clampLe (n := 4) (b := 4) rfl h0.1 h0.2
  have c0 := hB.2.2.2.1
  have hc5 := clampLe (n := 5) (b := 5) rfl c0.1 c0.2
  have p := pass2 hB hD hI tp (a2.toNatClampNeg) hu4
  unfold sX2_passHour_1 sX2_passHour_2 sX2_passHour_3 sX2_passHour_4 sX2_passHour_5 sX10_pass_9
  rw [hB.1.2.1]
  have e22 := p.1.2.2.2.2.2
  refine ⟨?_, DI_hour p.2 hc5 hb⟩
  rw [← e22]
  exact RD_5 p.1 (dy5 + 1)
theorem ref_eq {p0 : Int32} (hB : RB sh0 sh1 sh2 sh3 sh4 sh5 sh6 sh7 sh8 a0 a1 a2 a3 a4 a5 a6 a7 a8) (hD : RD dy0 dy1 dy2 dy3 dy4 dy5 a9) : rX9_refusalOfHours dy5 sh6 p0 = rX10_hoursRefused a0 a9 p0 := by
  unfold rX9_refusalOfHours rX10_hoursRefused
  have hd : rX10_in p0.toInt64 1 60 = 0 ↔ ¬ rX9_isOutside p0 1 60 = 0 := out_iff rfl rfl
  simp only [hd, hB.1.1, stands_iff hB.2.1.1, hD.2.2.2.2.2]
  by_cases q : rX9_isOutside p0 1 60 = 0
  · simp only [if_pos q, if_neg (not_not_intro q)]
  · simp only [if_neg q, if_pos q, not_false_eq_true, if_true]
theorem DI_9000 (hI : DI hu ca 9060 f) (h : f 22 ≤ 9000) : DI hu ca 9000 f := ⟨⟨hI.1.1, Int32.le_iff_toInt_le.mp h⟩, hI.2⟩
theorem hour25 (hB : RB sh0 sh1 sh2 sh3 sh4 sh5 sh6 sh7 sh8 a0 a1 a2 a3 a4 a5 a6 a7 a8) (hD : RD dy0 dy1 dy2 dy3 dy4 dy5 f) (hI : DI (a2.toNatClampNeg) (a4.toNatClampNeg) 9000 f) (tp : 0 < a0) : ∀ k : Nat, k ≤ 60 → RD dy0 (aX9_hour_25 dy0 dy1 dy2 dy3 dy4 dy5 sh0 sh2 sh3 sh4 sh6 sh7 sh8 k).1 (aX9_hour_25 dy0 dy1 dy2 dy3 dy4 dy5 sh0 sh2 sh3 sh4 sh6 sh7 sh8 k).2.1 (aX9_hour_25 dy0 dy1 dy2 dy3 dy4 dy5 sh0 sh2 sh3 sh4 sh6 sh7 sh8 k).2.2.1 (aX9_hour_25 dy0 dy1 dy2 dy3 dy4 dy5 sh0 sh2 sh3 sh4 sh6 sh7 sh8 k).2.2.2.1 (aX9_hour_25 dy0 dy1 dy2 dy3 dy4 dy5 sh0 sh2 sh3 sh4 sh6 sh7 sh8 k).2.2.2.2 (aX10_hour_18 a0 a1 a2 a5 a6 a7 f k) ∧ DI (a2.toNatClampNeg) (a4.toNatClampNeg) (9000 + k) (aX10_hour_18 a0 a1 a2 a5 a6 a7 f k) := by
  intro k
  induction k with
  | zero => intro _; exact ⟨hD, hI⟩
  | succ k ih =>
    intro hk
    obtain ⟨ihD, ihI⟩ := ih (by omega)
    rw [aX9_hour_25, aX10_hour_18]
    generalize aX9_hour_25 dy0 dy1 dy2 dy3 dy4 dy5 sh0 sh2 sh3 sh4 sh6 sh7 sh8 k = t at ihD ⊢
    have p := pass_eq hB ihD ihI (by omega) tp
    rw [show (9000 : Int) + ((k + 1 : Nat) : Int) = 9000 + (k : Int) + 1 by omega]
    exact p
theorem e_hour {pa0 a27 : Nat → Int32} {pa1 pa2 a26 p0 : Int32} (hB : RB sh0 sh1 sh2 sh3 sh4 sh5 sh6 sh7 sh8 a0 a1 a2 a3 a4 a5 a6 a7 a8) (hD : RD dy0 dy1 dy2 dy3 dy4 dy5 a9) (hI : DI (a2.toNatClampNeg) (a4.toNatClampNeg) 9060 a9) (hP : RP (a2.toNatClampNeg) (a4.toNatClampNeg) pa0 pa1 pa2 a26 a27) : rX9_hour dy0 dy1 dy2 dy3 dy4 dy5 sh0 sh2 sh3 sh4 sh6 sh7 sh8 p0 = rX10_hour a0 a1 a2 a5 a6 a7 a9 p0 ∧ RD dy0 (sX9_hour_o1_1 dy0 dy1 dy2 dy3 dy4 dy5 sh0 sh2 sh3 sh4 sh6 sh7 sh8 p0) (sX9_hour_o1_2 dy0 dy1 dy2 dy3 dy4 dy5 sh0 sh2 sh3 sh4 sh6 sh7 sh8 p0) (sX9_hour_o1_3 dy0 dy1 dy2 dy3 dy4 dy5 sh0 sh2 sh3 sh4 sh6 sh7 sh8 p0) (sX9_hour_o1_4 dy0 dy1 dy2 dy3 dy4 dy5 sh0 sh2 sh3 sh4 sh6 sh7 sh8 p0) (sX9_hour_o1_5 dy0 dy1 dy2 dy3 dy4 dy5 sh0 sh2 sh3 sh4 sh6 sh7 sh8 p0) (sX10_hour_9 a0 a1 a2 a5 a6 a7 a9 p0) ∧ DI (a2.toNatClampNeg) (a4.toNatClampNeg) 9060 (sX10_hour_9 a0 a1 a2 a5 a6 a7 a9 p0) ∧ RP (a2.toNatClampNeg) (a4.toNatClampNeg) (sX9_hour_o2_0 dy0 dy1 dy2 dy3 dy4 dy5 pa0 pa1 sh6 p0) (sX9_hour_o2_1 dy5 pa1 sh6 p0) (sX9_hour_o2_2 dy5 pa2 sh6 p0) (sX10_hour_26 a0 a9 a26 p0) (sX10_hour_27 a0 a9 a26 a27 p0) := by
  have c0 := hB.2.2.2.1
  have hc5 := clampLe (n := 5) (b := 5) rfl c0.1 c0.2
  unfold rX9_hour rX10_hour sX9_hour_o1_1 sX9_hour_o1_2 sX9_hour_o1_3 sX9_hour_o1_4 sX9_hour_o1_5 sX10_hour_9 sX9_hour_o2_0 sX9_hour_o2_1 sX9_hour_o2_2 sX10_hour_26 sX10_hour_27
  simp only [ref_eq (p0 := p0) hB hD]
  by_cases q : rX10_hoursRefused a0 a9 p0 = 0
  · simp only [if_pos q]
    have r := hr0 q
    have n60 := clampLe (x := p0) (n := 60) (b := 60) rfl (by grind) r.1.2
    have t0 := hB.2.1.1
    have hr := hour25 hB hD (DI_9000 hI r.2.2) (by have := r.2.1; grind) (p0.toNatClampNeg) n60
    exact ⟨hr.1.2.2.2.2.2, hr.1, DI_mono (by omega) hr.2, push_rp hc5 hD hI hP⟩
  · simp only [if_neg q]
    exact ⟨trivial, hD, hI, hP⟩
end EQ7
